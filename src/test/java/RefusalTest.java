import java.util.List;
import java.util.function.Supplier;
import java.util.function.ToIntFunction;

/**
 * "A call that is refused changes nothing", nor does one that only looks, nor a read that fails:
 * all that can be seen of an object is the same with the call and without it.
 */
public final class RefusalTest {
    private static final int MIN = Integer.MIN_VALUE;
    private static final int MAX = Integer.MAX_VALUE;
    private static final int UNKNOWN = PackedSlots.UNKNOWN;
    private static final int OUTSIDE = PackedSlots.OUTSIDE;
    private static final int ROOM = PackedSlots.ROOM;
    private static final int CAPACITY = 300;
    private static final Due T = new Due("RefusalTest");

    private final Supplier<PackedSlots> made;
    private final List<Integer> before;

    private RefusalTest(Supplier<PackedSlots> made) {
        this.made = made;
        before = Whole.of(made, CAPACITY);
    }

    public static void main(String[] args) {
        RefusalTest crowded = new RefusalTest(() -> crowded(3, 1));
        crowded.buffer();
        crowded.blocks();
        crowded.noRoom();
        crowded.storeAndTape();
        crowded.looks();
        // Block 4: 0x2f 1 2 1 0 230 0x50 2 2 2 2 255.
        failedRead("a byte lacks", 6, 0x50 ^ 0x40, -1);
        failedRead("the offset is wrong", 4, 1, -2);
        failedRead("too many bytes", 5, 230 ^ 231, -3);
        failedRead("too few bytes", 5, 230 ^ 229, -4);
        new RefusalTest(RefusalTest::fullTape).fullTapeRefuses();
        lateCalls();
        T.end();
    }

    /**
     * Block 0 is SAME, 1 was trimmed, 2 is RAW, 4 is PACKED and a byte of it altered, 5 is PACKED; free rows lie before 4
     * and at the end; the buffer is packed to 256 bytes or more; bytes are on the tape, and decode has told an error.
     */
    private static PackedSlots crowded(int at, int mask) {
        PackedSlots x = new PackedSlots(CAPACITY);
        x.run(0, 256, 77);
        x.write(0);
        Given.allDifferent(x);
        x.write(2);
        Given.smallBlock(x, 1, 11);
        Given.smallBlock(x, 4, 12);
        Given.smallBlock(x, 5, 11);
        x.trim(1);
        x.alter(x.slot(4, 2) + at, mask);
        Given.tape(x, 0x10, 7, 1);
        x.decode();
        Given.tape(x, 0x20, 7, 8, 1, 0, 0x00);
        x.read(2);
        return x;
    }

    private static PackedSlots fullTape() {
        PackedSlots x = Given.slots(CAPACITY, 11);
        Given.tape(x, Given.join(Given.bytes(0x10, 7, 0, 0), Given.times(595, 5)));
        return x;
    }

    private void nothingChanges(String call, int due, ToIntFunction<PackedSlots> calling) {
        T.test(call, () -> {
            T.due(call, calling.applyAsInt(made.get()), due);
            List<Integer> after = Whole.of(() -> {
                PackedSlots x = made.get();
                calling.applyAsInt(x);
                return x;
            }, CAPACITY);
            T.holds("nothing has changed behind " + call, before.equals(after));
        });
    }

    private void buffer() {
        for (int at : new int[] {MIN, -1, 253, MAX}) {
            nothingChanges("fill(" + at + ", 7)", OUTSIDE, x -> x.fill(at, 7));
        }
        for (int[] w : new int[][] {{-1, 2}, {256, 1}, {0, 0}, {0, 257}, {255, 2}, {255, MAX}, {MIN, MIN}}) {
            nothingChanges("run(" + w[0] + ", " + w[1] + ", 7)", OUTSIDE, x -> x.run(w[0], w[1], 7));
        }
        for (int[] w : new int[][] {{-1, 0, 2}, {0, -1, 2}, {256, 0, 1}, {0, 256, 1}, {9, 0, 0}, {0, 0, 257}, {255, 0, 2},
            {0, 255, 2}, {255, 255, MAX}}) {
            nothingChanges("copy(" + w[0] + ", " + w[1] + ", " + w[2] + ")", OUTSIDE, x -> x.copy(w[0], w[1], w[2]));
        }
    }

    private void blocks() {
        for (int b : new int[] {MIN, -1, 32, MAX}) {
            nothingChanges("write(" + b + ")", UNKNOWN, x -> x.write(b));
            nothingChanges("read(" + b + ")", UNKNOWN, x -> x.read(b));
            nothingChanges("trim(" + b + ")", UNKNOWN, x -> x.trim(b));
            nothingChanges("slot(" + b + ", 0)", UNKNOWN, x -> x.slot(b, 0));
            nothingChanges("slot(" + b + ", 3)", UNKNOWN, x -> x.slot(b, 3));
        }
        nothingChanges("slot(2, 3)", OUTSIDE, x -> x.slot(2, 3));
        nothingChanges("slot(2, -1)", OUTSIDE, x -> x.slot(2, -1));
    }

    private static void failedRead(String name, int at, int mask, int due) {
        new RefusalTest(() -> crowded(at, mask)).nothingChanges("read when " + name, due, x -> x.read(4));
    }

    private void noRoom() {
        nothingChanges("write over a SAME block", ROOM, x -> x.write(0));
        nothingChanges("write over a trimmed block", ROOM, x -> x.write(1));
        nothingChanges("write over a block as at first", ROOM, x -> x.write(3));
        nothingChanges("write over an altered block", ROOM, x -> x.write(4));
        nothingChanges("write over a PACKED block", ROOM, x -> x.write(5));
        nothingChanges("write of the last block", ROOM, x -> x.write(31));
    }

    private void storeAndTape() {
        for (int i : new int[] {MIN, -1, CAPACITY, MAX}) {
            nothingChanges("alter(" + i + ", 255)", OUTSIDE, x -> x.alter(i, 255));
        }
        for (int what : new int[] {MIN, -1, 3, MAX}) {
            nothingChanges("free(" + what + ")", OUTSIDE, x -> x.free(what));
        }
        for (int n : new int[] {MIN, -1, 0, 5, MAX}) {
            nothingChanges("type(7, " + n + ")", OUTSIDE, x -> x.type(7, n));
        }
    }

    private void looks() {
        nothingChanges("octet(-1)", PackedSlots.NONE, x -> x.octet(-1));
        nothingChanges("octet(256)", PackedSlots.NONE, x -> x.octet(256));
        nothingChanges("octet(200)", 200, x -> x.octet(200));
        nothingChanges("stored(-1)", PackedSlots.NONE, x -> x.stored(-1));
        nothingChanges("stored(300)", PackedSlots.NONE, x -> x.stored(CAPACITY));
        nothingChanges("stored(200)", 200, x -> x.stored(200));
        nothingChanges("slot(2, 1)", 256, x -> x.slot(2, 1));
        nothingChanges("free(0)", 21, x -> x.free(0));
        nothingChanges("free(1)", 11, x -> x.free(1));
        nothingChanges("free(2)", 2, x -> x.free(2));
        nothingChanges("place()", 3, x -> x.place());
        nothingChanges("trim of a block as at first", 0, x -> x.trim(3));
        nothingChanges("alter by 0", 1, x -> x.alter(200, 256));
        nothingChanges("read of what is in the buffer", 1, x -> x.read(2));
        nothingChanges("write of what the block is already", 256, x -> x.write(2));
    }

    private void fullTapeRefuses() {
        for (int n = 2; n <= 4; n++) {
            int bytes = n;
            nothingChanges("type(7, " + n + ") behind 599", ROOM, x -> x.type(7, bytes));
        }
        nothingChanges("type(7, 0) behind 599", OUTSIDE, x -> x.type(7, 0));
        nothingChanges("type(7, 5) behind 599", OUTSIDE, x -> x.type(7, 5));
    }

    // "an object is used for at most 512 calls": the last of them answers as the first does

    private static void lateCalls() {
        T.test("the 512th call is a write", () -> {
            PackedSlots x = Given.slots(20, 11);
            for (int call = 4; call <= 511; call++) {
                x.write(call % 32 == 0 ? 0 : 32);
            }
            T.due("write(0)", x.write(0), 11);
        });
        T.test("the 512th call is a compact behind many moves", () -> {
            PackedSlots x = Given.slots(40, 11, 11);
            // 6 calls made it; each turn has 3 and leaves block 0 and then 1 at the end.
            for (int turn = 0; turn < 168; turn++) {
                int block = turn % 2;
                T.due("trim", x.trim(block), 11);
                T.due("compact", x.compact(), 11);
                T.due("write", x.write(block), 11);
            }
            T.due("slot(0, 2)", x.slot(0, 2), 0);
            T.due("compact()", x.compact(), 0);
        });
        T.test("170 tapes, one behind the other", () -> {
            PackedSlots x = new PackedSlots(0);
            for (int k = 0; k < 170; k++) {
                T.due("type", x.type(0x1000 + k, 2), 2);
                T.due("decode", x.decode(), 1);
                T.due("octet(0)", x.octet(0), k);
            }
        });
    }
}
