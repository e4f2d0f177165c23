/** The edges of promises 1 to 5, each by a test of its own: a new object, fill, run, copy, octet. */
public final class BufferEdgesTest {
    private static final int MIN = Integer.MIN_VALUE;
    private static final int MAX = Integer.MAX_VALUE;
    private static final int NONE = PackedSlots.NONE;
    private static final int OUTSIDE = PackedSlots.OUTSIDE;
    private static final Due T = new Due("BufferEdgesTest");

    private BufferEdgesTest() {
    }

    public static void main(String[] args) {
        newStore();
        newBlocksAndBuffer();
        fill();
        run();
        runRefused();
        copy();
        copyRefused();
        octet();
        T.end();
    }

    // Promise 1: "a store of so many bytes, brought to 0 .. 4096, all 0"

    private static void newStore() {
        capacity("the least number is brought to 0", MIN, 0);
        capacity("-1 is brought to 0", -1, 0);
        capacity("0 is an empty store", 0, 0);
        capacity("1 is a store of one byte", 1, 1);
        capacity("4095 stays", 4095, 4095);
        capacity("4096 stays", 4096, 4096);
        capacity("4097 is brought to 4096", 4097, 4096);
        capacity("the greatest number is brought to 4096", MAX, 4096);
        T.test("every byte of a new store is 0", () -> {
            PackedSlots x = new PackedSlots(4096);
            for (int i = 0; i < 4096; i++) {
                x = i % 512 == 0 ? new PackedSlots(4096) : x;
                T.due("stored(" + i + ")", x.stored(i), 0);
            }
        });
        T.test("an object made later does not see what was done to another", () -> {
            PackedSlots x = Given.slots(100, 11);
            x.type(0x10, 1);
            x.decode();
            x.type(0x10, 1);
            PackedSlots y = new PackedSlots(100);
            T.octetsAll(y, 0, 256, 0);
            T.storedAre(y, 0, Given.times(100, 0));
            T.slotIs(y, 0, 0, 0, NONE);
            T.due("place()", y.place(), NONE);
            T.due("type(0, 1)", y.type(0, 1), 1);
        });
    }

    private static void capacity(String name, int asked, int due) {
        T.test(name, () -> {
            PackedSlots x = new PackedSlots(asked);
            T.freeIs(x, due, due, due == 0 ? 0 : 1);
            T.due("stored of the last byte", x.stored(due - 1), due == 0 ? NONE : 0);
            T.due("stored behind the last byte", x.stored(due), NONE);
            T.due("alter of the last byte", x.alter(due - 1, 5), due == 0 ? OUTSIDE : 1);
            T.due("alter behind the last byte", x.alter(due, 5), OUTSIDE);
            T.due("stored of the last byte", x.stored(due - 1), due == 0 ? NONE : 5);
        });
    }

    // Terms: "blocks 0 .. 31 have 256 bytes, 0 at first", "the buffer has 256 bytes (0 at first)"

    private static void newBlocksAndBuffer() {
        T.test("every byte of a new buffer is 0", () -> T.octetsAll(new PackedSlots(0), 0, 256, 0));
        T.test("the tape is empty at first", () -> T.due("type(7, 1)", new PackedSlots(0).type(7, 1), 1));
        T.test("place is NONE at first", () -> T.due("place()", new PackedSlots(0).place(), NONE));
        T.test("every block is as at first and has no slot", () -> {
            PackedSlots x = new PackedSlots(4096);
            for (int b = 0; b < 32; b++) {
                T.slotIs(x, b, 0, 0, NONE);
            }
        });
        for (int block : new int[] {0, 1, 30, 31}) {
            T.test("block " + block + " has bytes 0 at first", () -> {
                PackedSlots x = new PackedSlots(0);
                x.run(0, 256, 255);
                T.due("read(" + block + ")", x.read(block), 1);
                T.octetsAll(x, 0, 256, 0);
            });
        }
    }

    // Promise 2: "bytes at .. at + 3 of the buffer are those of w, highest first: OUTSIDE (at 0 .. 252)"

    private static void fill() {
        fills("fill at 0, the least place", 0, 0x01020304, 1, 2, 3, 4);
        fills("fill at 1", 1, 0x01020304, 1, 2, 3, 4);
        fills("fill at 252, the greatest place", 252, 0x01020304, 1, 2, 3, 4);
        fills("fill with the highest bit set", 100, MIN, 128, 0, 0, 0);
        fills("fill with every bit set", 100, -1, 255, 255, 255, 255);
        fills("fill with the greatest number", 100, MAX, 127, 255, 255, 255);
        fills("fill with 0", 100, 0, 0, 0, 0, 0);
        for (int at : new int[] {MIN, -4, -1, 253, 254, 255, 256, MAX - 3, MAX}) {
            T.test("fill at " + at + " is refused", () -> {
                PackedSlots x = nines();
                T.due("fill", x.fill(at, 0x01020304), OUTSIDE);
                T.octetsAll(x, 0, 256, 9);
            });
        }
    }

    private static void fills(String name, int at, int w, int... due) {
        T.test(name, () -> {
            PackedSlots x = nines();
            T.due("fill(" + at + ", " + w + ")", x.fill(at, w), 1);
            T.octetsAll(x, 0, at, 9);
            T.octets(x, at, due);
            T.octetsAll(x, at + 4, 256, 9);
        });
    }

    // Promise 3: "n bytes of the buffer from one on are b (its lowest eight bits)"

    private static void run() {
        runs("a run of 1 at the first byte", 0, 1, 7, 7);
        runs("a run of 1 at the last byte", 255, 1, 7, 7);
        runs("a run of 256, the whole buffer", 0, 256, 7, 7);
        runs("a run of 255 up to the end", 1, 255, 7, 7);
        runs("a run of 255 from the first byte", 0, 255, 7, 7);
        runs("a run of 2 up to the end", 254, 2, 7, 7);
        runs("a run of 255s", 10, 20, 255, 255);
        runs("a run of 256: its lowest eight bits are 0", 10, 20, 256, 0);
        runs("a run of -1: its lowest eight bits are 255", 10, 20, -1, 255);
        runs("a run of -256: its lowest eight bits are 0", 10, 20, -256, 0);
        runs("a run of the least number: its lowest eight bits are 0", 10, 20, MIN, 0);
        runs("a run of the greatest number: its lowest eight bits are 255", 10, 20, MAX, 255);
    }

    private static void runs(String name, int at, int n, int b, int due) {
        T.test(name, () -> {
            PackedSlots x = nines();
            T.due("run(" + at + ", " + n + ", " + b + ")", x.run(at, n, b), 1);
            T.octetsAll(x, 0, at, 9);
            T.octetsAll(x, at, at + n, due);
            T.octetsAll(x, at + n, 256, 9);
        });
    }

    // "OUTSIDE (at 0 .. 255; n not 1 .. 256, or beyond the end)"

    private static void runRefused() {
        noRun("at below 0", -1, 1);
        noRun("at below 0, though it would end within", -1, 2);
        noRun("at the least number", MIN, 1);
        noRun("at 256", 256, 1);
        noRun("at the greatest number", MAX, 1);
        noRun("n of 0", 0, 0);
        noRun("n of 0 at the last byte", 255, 0);
        noRun("n of 0 at 256", 256, 0);
        noRun("n below 0", 5, -1);
        noRun("n the least number", 0, MIN);
        noRun("n of 257", 0, 257);
        noRun("n the greatest number", 0, MAX);
        noRun("one beyond the end from 1", 1, 256);
        noRun("one beyond the end from 128", 128, 129);
        noRun("one beyond the end from 255", 255, 2);
        noRun("an end that wraps around to below 0", 255, MAX);
        noRun("an end that wraps around to 0", MIN, MIN);
        noRun("at and n both the greatest", MAX, MAX);
    }

    private static void noRun(String name, int at, int n) {
        T.test("run refused: " + name, () -> {
            PackedSlots x = nines();
            T.due("run(" + at + ", " + n + ", 1)", x.run(at, n, 1), OUTSIDE);
            T.octetsAll(x, 0, 256, 9);
        });
    }

    // Promise 4: "n bytes become those from another one on, one behind the other from the first (also when they lie on one another)"

    private static void copy() {
        copies("copy of 1 from the first byte to the last", 255, 0, 1);
        copies("copy of 1 from the last byte to the first", 0, 255, 1);
        copies("copy of 256 onto itself", 0, 0, 256);
        copies("copy of 255 one up: the first byte spreads", 1, 0, 255);
        copies("copy of 255 one down", 0, 1, 255);
        copies("copy of 128, the halves side by side", 128, 0, 128);
        copies("copy of 128 down, the halves side by side", 0, 128, 128);
        copies("copy that lies on one byte of its own source", 13, 10, 4);
        copies("copy two up spreads two bytes", 12, 10, 9);
        copies("copy two down does not spread", 10, 12, 9);
        copies("copy up to the end of the buffer, to", 250, 100, 6);
        copies("copy up to the end of the buffer, from", 100, 250, 6);
    }

    private static void copies(String name, int to, int from, int n) {
        T.test(name, () -> {
            PackedSlots x = new PackedSlots(0);
            Given.allDifferent(x);
            int[] due = Given.count(0, 256);
            // What is copied up onto its own source comes again in steps of to - from.
            for (int k = 0; k < n; k++) {
                due[to + k] = to > from ? from + k % (to - from) : from + k;
            }
            T.due("copy(" + to + ", " + from + ", " + n + ")", x.copy(to, from, n), 1);
            T.octets(x, 0, due);
        });
    }

    // "OUTSIDE (both 0 .. 255; n not 1 .. 256, or beyond the end)"

    private static void copyRefused() {
        noCopy("to below 0", -1, 0, 1);
        noCopy("from below 0", 0, -1, 1);
        noCopy("to the least number", MIN, 0, 1);
        noCopy("from the least number", 0, MIN, 1);
        noCopy("to 256", 256, 0, 1);
        noCopy("from 256", 0, 256, 1);
        noCopy("to the greatest number", MAX, 0, 1);
        noCopy("from the greatest number", 0, MAX, 1);
        noCopy("n of 0", 1, 2, 0);
        noCopy("n below 0", 1, 2, -1);
        noCopy("n the least number", 1, 2, MIN);
        noCopy("n of 257", 0, 0, 257);
        noCopy("n the greatest number", 0, 0, MAX);
        noCopy("one beyond the end, to", 1, 0, 256);
        noCopy("one beyond the end, from", 0, 1, 256);
        noCopy("one beyond the end from the last byte, to", 255, 0, 2);
        noCopy("one beyond the end from the last byte, from", 0, 255, 2);
        noCopy("ends that wrap around to below 0", 255, 255, MAX);
        noCopy("an end that wraps around, to", 255, 0, MAX);
        noCopy("an end that wraps around, from", 0, 255, MAX);
    }

    private static void noCopy(String name, int to, int from, int n) {
        T.test("copy refused: " + name, () -> {
            PackedSlots x = new PackedSlots(0);
            Given.allDifferent(x);
            T.due("copy(" + to + ", " + from + ", " + n + ")", x.copy(to, from, n), OUTSIDE);
            T.octets(x, 0, Given.count(0, 256));
        });
    }

    // Promise 5: "byte i of the buffer; NONE when there is none such"

    private static void octet() {
        T.test("octet of every byte", () -> {
            PackedSlots x = new PackedSlots(0);
            Given.allDifferent(x);
            T.octets(x, 0, Given.count(0, 256));
        });
        for (int i : new int[] {MIN, -256, -1, 256, 257, MAX}) {
            T.test("octet of " + i + ", which there is not", () -> T.due("octet", nines().octet(i), NONE));
        }
        T.test("octet goes by the buffer, not by the store", () -> {
            T.due("octet(255)", new PackedSlots(0).octet(255), 0);
            T.due("octet(256)", new PackedSlots(4096).octet(256), NONE);
        });
        T.test("octet of 255 is 255, not NONE", () -> {
            PackedSlots x = new PackedSlots(0);
            x.run(3, 1, 255);
            T.due("octet(3)", x.octet(3), 255);
        });
    }

    private static PackedSlots nines() {
        PackedSlots x = new PackedSlots(0);
        x.run(0, 256, 9);
        return x;
    }
}
