/** The edges of packing and of what kind a written block is (promise 6), each by a test of its own. */
public final class PackEdgesTest {
    private static final int NONE = PackedSlots.NONE;
    private static final int SAME = 1, PACKED = 2, RAW = 3;
    // 100 zeros are packed to these: one literal, and a match of 99 with the byte before.
    private static final int[] ZEROS_PACKED = {0x1f, 0, 1, 0, 99 - 19};
    private static final Due T = new Due("PackEdgesTest");

    private PackEdgesTest() {
    }

    public static void main(String[] args) {
        whereMatchesBegin();
        whereMatchesEnd();
        howShortMatchesAre();
        whichMatchIsTaken();
        beyondItself();
        literalsBetween();
        howLongLiteralsAre();
        howLongMatchesAre();
        same();
        packedOrRaw();
        T.end();
    }

    /** 100 zeros, and then 100 .. 255: nothing but the zeros is packed. */
    private static int[] base() {
        return Given.join(Given.times(100, 0), Given.count(100, 256));
    }

    /** The base, with n bytes from one place on copied to another. */
    private static int[] base(int to, int from, int n) {
        return copied(base(), to, from, n);
    }

    private static int[] copied(int[] row, int to, int from, int n) {
        System.arraycopy(row, from, row, to, n);
        return row;
    }

    private static int[] part(int[] row, int from, int end) {
        return java.util.Arrays.copyOfRange(row, from, end);
    }

    /** What a row is packed to, and that it reads back. */
    private static void packs(String name, int[] row, int[]... dueParts) {
        int[] due = Given.join(dueParts);
        T.test(name, () -> {
            PackedSlots x = new PackedSlots(due.length);
            Given.buffer(x, row);
            T.due("write(0)", x.write(0), due.length);
            T.slotIs(x, 0, PACKED, due.length, 0);
            T.storedAre(x, 0, due);
        });
        T.test(name + ": reads back", () -> readsBack(row));
    }

    private static void readsBack(int[] row) {
        PackedSlots x = new PackedSlots(256);
        Given.buffer(x, row);
        x.write(0);
        x.run(0, 256, 99);
        T.due("read(0)", x.read(0), 1);
        T.octets(x, 0, row);
    }

    // "at i, 0 at first, as long as i is 244 at most"

    private static void whereMatchesBegin() {
        packs("a match of 4 begins at 244", base(244, 150, 4), ZEROS_PACKED,
            Given.bytes(0xf0, 144 - 15), Given.count(100, 244), Given.bytes(94, 0), Given.bytes(0x80), Given.count(248, 256));
        packs("no match begins at 245", base(245, 150, 4), ZEROS_PACKED,
            Given.bytes(0xf0, 156 - 15), part(base(245, 150, 4), 100, 256));
        packs("no match begins at 245, however long", base(245, 150, 11), ZEROS_PACKED,
            Given.bytes(0xf0, 156 - 15), part(base(245, 150, 11), 100, 256));
        packs("a match begins at 1, the first place with one before it", copied(base(), 1, 0, 99), ZEROS_PACKED,
            Given.bytes(0xf0, 156 - 15), Given.count(100, 256));
        packs("a match begins behind a match that ends at 244",
            copied(base(234, 150, 10), 244, 170, 6), ZEROS_PACKED,
            Given.bytes(0xf6, 134 - 15), Given.count(100, 234), Given.bytes(84, 0),
            Given.bytes(0x02, 74, 0), Given.bytes(0x60), Given.count(250, 256));
        packs("none begins behind a match that ends at 245",
            copied(base(235, 150, 10), 245, 170, 6), ZEROS_PACKED,
            Given.bytes(0xf6, 135 - 15), Given.count(100, 235), Given.bytes(85, 0),
            Given.bytes(0xb0), Given.count(170, 176), Given.count(251, 256));
    }

    // "up to 251 bytes of the buffer, not further"

    private static void whereMatchesEnd() {
        packs("a match at 244 has 7 bytes at most", base(244, 150, 12), ZEROS_PACKED,
            Given.bytes(0xf3, 144 - 15), Given.count(100, 244), Given.bytes(94, 0), Given.bytes(0x50), Given.count(157, 162));
        packs("a match ends before byte 251, which is the same too", base(240, 150, 12), ZEROS_PACKED,
            Given.bytes(0xf7, 140 - 15), Given.count(100, 240), Given.bytes(90, 0),
            Given.bytes(0x50, 161), Given.count(252, 256));
        packs("a match takes byte 250", base(240, 150, 11), ZEROS_PACKED,
            Given.bytes(0xf7, 140 - 15), Given.count(100, 240), Given.bytes(90, 0), Given.bytes(0x50), Given.count(251, 256));
        packs("a match ends before byte 250, which is another", base(240, 150, 10), ZEROS_PACKED,
            Given.bytes(0xf6, 140 - 15), Given.count(100, 240), Given.bytes(90, 0), Given.bytes(0x60), Given.count(250, 256));
        packs("the longest match of all has 250 bytes", Given.join(Given.times(255, 9), Given.bytes(8)),
            Given.bytes(0x1f, 9, 1, 0, 250 - 19), Given.bytes(0x50, 9, 9, 9, 9, 8));
    }

    // "if there are 4 or more"

    private static void howShortMatchesAre() {
        packs("3 bytes the same are no match", base(200, 150, 3), ZEROS_PACKED,
            Given.bytes(0xf0, 156 - 15), part(base(200, 150, 3), 100, 256));
        packs("4 bytes the same are one", base(200, 150, 4), ZEROS_PACKED,
            Given.bytes(0xf0, 100 - 15), Given.count(100, 200), Given.bytes(50, 0),
            Given.bytes(0xf0, 52 - 15), Given.count(204, 256));
        packs("5 bytes the same are one", base(200, 150, 5), ZEROS_PACKED,
            Given.bytes(0xf1, 100 - 15), Given.count(100, 200), Given.bytes(50, 0),
            Given.bytes(0xf0, 51 - 15), Given.count(205, 256));
        packs("3 that are the same up to the end of matches are no match", base(247, 150, 4), ZEROS_PACKED,
            Given.bytes(0xf0, 156 - 15), part(base(247, 150, 4), 100, 256));
    }

    // "that with which as many bytes as can be are the same", "of several the nearest"

    private static void whichMatchIsTaken() {
        packs("of two with 6 bytes the nearest", copied(base(170, 110, 6), 200, 110, 6), ZEROS_PACKED,
            Given.bytes(0xf2, 70 - 15), Given.count(100, 170), Given.bytes(60, 0),
            Given.bytes(0xf2, 24 - 15), Given.count(176, 200), Given.bytes(30, 0),
            Given.bytes(0xf0, 50 - 15), Given.count(206, 256));
        packs("the longer one, though another is nearer", copied(base(170, 110, 6), 200, 110, 7), ZEROS_PACKED,
            Given.bytes(0xf2, 70 - 15), Given.count(100, 170), Given.bytes(60, 0),
            Given.bytes(0xf3, 24 - 15), Given.count(176, 200), Given.bytes(90, 0),
            Given.bytes(0xf0, 49 - 15), Given.count(207, 256));
        packs("the nearer one, when it is the longer one", copied(copied(base(170, 110, 6), 176, 120, 4), 200, 170, 10),
            ZEROS_PACKED,
            Given.bytes(0xf2, 70 - 15), Given.count(100, 170), Given.bytes(60, 0),
            Given.bytes(0x00, 56, 0),
            Given.bytes(0xf6, 20 - 15), Given.count(180, 200), Given.bytes(30, 0),
            Given.bytes(0xf0, 46 - 15), Given.count(210, 256));
        // Place 110 agrees in 16 bytes, place 170 in 11; only 11 of either lie before byte 251.
        packs("bytes behind 251 do not make one longer", copied(base(170, 110, 11), 240, 110, 16), ZEROS_PACKED,
            Given.bytes(0xf7, 70 - 15), Given.count(100, 170), Given.bytes(60, 0),
            Given.bytes(0xf7, 59 - 15), Given.count(181, 240), Given.bytes(70, 0),
            Given.bytes(0x50), Given.count(121, 126));
        int[] first = Given.count(0, 256);
        System.arraycopy(Given.times(60, 0), 0, first, 100, 60);
        copied(first, 200, 0, 5);
        packs("place 0 is one of the places", first,
            Given.bytes(0xff, 101 - 15), part(first, 0, 101), Given.bytes(1, 0, 59 - 19),
            Given.bytes(0xf1, 40 - 15), Given.count(160, 200), Given.bytes(200, 0),
            Given.bytes(0xf0, 51 - 15), Given.count(205, 256));
    }

    // "they may go beyond i"

    private static void beyondItself() {
        int[] pairs = base();
        for (int i = 0; i < 20; i++) {
            pairs[150 + i] = 1 + i % 2;
        }
        packs("a match with two before goes beyond i", pairs, ZEROS_PACKED,
            Given.bytes(0xfe, 52 - 15), Given.count(100, 150), Given.bytes(1, 2), Given.bytes(2, 0),
            Given.bytes(0xf0, 86 - 15), Given.count(170, 256));
        int[] fours = base();
        for (int i = 0; i < 9; i++) {
            fours[150 + i] = 1 + i % 4;
        }
        packs("a match of 5 with four before goes one beyond i", fours, ZEROS_PACKED,
            Given.bytes(0xf1, 54 - 15), Given.count(100, 150), Given.count(1, 5), Given.bytes(4, 0),
            Given.bytes(0xf0, 97 - 15), Given.count(159, 256));
        int[] one = base();
        System.arraycopy(Given.times(4, 7), 0, one, 150, 4);
        packs("four times one byte is no match, for 3 are behind the first", one, ZEROS_PACKED,
            Given.bytes(0xf0, 156 - 15), part(one, 100, 256));
        int[] five = base();
        System.arraycopy(Given.times(5, 7), 0, five, 150, 5);
        packs("five times one byte is a match of 4", five, ZEROS_PACKED,
            Given.bytes(0xf0, 51 - 15), Given.count(100, 150), Given.bytes(7), Given.bytes(1, 0),
            Given.bytes(0xf0, 101 - 15), Given.count(155, 256));
    }

    // "a sequence of the literals since the sequence before, and this match; i is behind it then"

    private static void literalsBetween() {
        packs("no literal between two matches", copied(base(200, 110, 5), 205, 120, 6), ZEROS_PACKED,
            Given.bytes(0xf1, 100 - 15), Given.count(100, 200), Given.bytes(90, 0),
            Given.bytes(0x02, 85, 0), Given.bytes(0xf0, 45 - 15), Given.count(211, 256));
        packs("one literal between two matches", copied(base(200, 110, 5), 206, 120, 6), ZEROS_PACKED,
            Given.bytes(0xf1, 100 - 15), Given.count(100, 200), Given.bytes(90, 0),
            Given.bytes(0x12, 205, 86, 0), Given.bytes(0xf0, 44 - 15), Given.count(212, 256));
        packs("a match within a match is not seen", base(200, 110, 20), ZEROS_PACKED,
            Given.bytes(0xff, 100 - 15), Given.count(100, 200), Given.bytes(90, 0, 1),
            Given.bytes(0xf0, 36 - 15), Given.count(220, 256));
    }

    // "t / 16, and if that is 15 all of the bytes behind it added, up to the first one that is not 255 (with it)"

    private static void howLongLiteralsAre() {
        literals("13 literals go into the token", 13, Given.bytes(0xdf));
        literals("14 literals go into the token", 14, Given.bytes(0xef));
        literals("15 literals have a byte 0 behind it", 15, Given.bytes(0xff, 0));
        literals("16 literals have a byte 1 behind it", 16, Given.bytes(0xff, 1));
        literals("17 literals have a byte 2 behind it", 17, Given.bytes(0xff, 2));
        for (int last : new int[] {14, 15, 16}) {
            int[] row = Given.join(Given.times(256 - last, 0), Given.count(1, last + 1));
            int[] token = last < 15 ? Given.bytes(last * 16) : Given.bytes(0xf0, last - 15);
            packs(last + " literals in the end", row,
                Given.bytes(0x1f, 0, 1, 0, 255 - last - 19), token, Given.count(1, last + 1));
        }
        int[] most = copied(Given.count(0, 256), 244, 10, 7);
        packs("244 literals before a match, the most that can be", most,
            Given.bytes(0xf3, 244 - 15), Given.count(0, 244), Given.bytes(234, 0), Given.bytes(0x50), Given.count(251, 256));
        int[] least = Given.join(Given.times(251, 3), Given.count(10, 15));
        packs("5 literals in the end, the fewest that can be", least,
            Given.bytes(0x1f, 3, 1, 0, 250 - 19), Given.bytes(0x50), Given.count(10, 15));
    }

    private static void literals(String name, int n, int[] head) {
        int[] row = Given.join(Given.count(0, n), Given.times(256 - n, n - 1));
        packs(name, row, head, Given.count(0, n), Given.bytes(1, 0, 251 - n - 19), Given.bytes(0x50), Given.times(5, n - 1));
    }

    // "how long the match is: 4 and t modulo 16, and if that is 15 bytes added in the same way"

    private static void howLongMatchesAre() {
        match("a match of 4 has 0 in the token", 4, Given.bytes(0xf0), Given.bytes());
        match("a match of 17 goes into the token", 17, Given.bytes(0xfd), Given.bytes());
        match("a match of 18 goes into the token", 18, Given.bytes(0xfe), Given.bytes());
        match("a match of 19 has a byte 0 behind its offset", 19, Given.bytes(0xff), Given.bytes(0));
        match("a match of 20 has a byte 1 behind its offset", 20, Given.bytes(0xff), Given.bytes(1));
        match("a match of 21 has a byte 2 behind its offset", 21, Given.bytes(0xff), Given.bytes(2));
    }

    private static void match(String name, int n, int[] token, int[] further) {
        packs(name, base(200, 110, n), ZEROS_PACKED,
            token, Given.bytes(100 - 15), Given.count(100, 200), Given.bytes(90, 0), further,
            Given.bytes(0xf0, 56 - n - 15), Given.count(200 + n, 256));
    }

    // "SAME, if all its bytes are one byte (it has no slot)"

    private static void same() {
        for (int b : new int[] {0, 1, 127, 128, 255}) {
            T.test("256 times " + b + " are SAME", () -> {
                PackedSlots x = new PackedSlots(300);
                x.run(0, 256, b);
                T.due("write(3)", x.write(3), 0);
                T.slotIs(x, 3, SAME, 0, NONE);
                T.freeIs(x, 300, 300, 1);
                x.run(0, 256, 99);
                T.due("read(3)", x.read(3), 1);
                T.octetsAll(x, 0, 256, b);
            });
        }
        notSame("the first byte is another", 0, Given.bytes(0x2f, 1, 0, 1, 0, 249 - 19, 0x50, 0, 0, 0, 0, 0));
        notSame("the second byte is another", 1, Given.bytes(0x3f, 0, 1, 0, 1, 0, 248 - 19, 0x50, 0, 0, 0, 0, 0));
        notSame("the last byte is another", 255, Given.bytes(0x1f, 0, 1, 0, 250 - 19, 0x50, 0, 0, 0, 0, 1));
        // From byte 129 on, places 0 .. 6 agree in all 122 bytes: the nearest is 6.
        notSame("a byte in the middle is another", 128,
            Given.bytes(0x1f, 0, 1, 0, 127 - 19, 0x1f, 1, 123, 0, 122 - 19, 0x50, 0, 0, 0, 0, 0));
    }

    private static void notSame(String name, int at, int[] due) {
        T.test("not SAME: " + name, () -> {
            PackedSlots x = new PackedSlots(300);
            x.run(at, 1, 1);
            T.due("write(3)", x.write(3), due.length);
            T.slotIs(x, 3, PACKED, due.length, 0);
            T.storedAre(x, 0, due);
        });
    }

    // "PACKED, if what the buffer is packed to has less than 256 bytes; else RAW"

    private static void packedOrRaw() {
        kind(254, "a match of 7 at 244", copied(Given.count(0, 256), 244, 10, 7));
        kind(255, "a match of 7", copied(Given.count(0, 256), 100, 10, 7));
        kind(256, "a match of 6", copied(Given.count(0, 256), 100, 10, 6));
        kind(257, "a match of 5", copied(Given.count(0, 256), 100, 10, 5));
        kind(258, "a match of 4", copied(Given.count(0, 256), 100, 10, 4));
        kind(258, "no match", Given.count(0, 256));
    }

    private static void kind(int packedTo, String by, int[] row) {
        int kind = packedTo < 256 ? PACKED : RAW;
        String name = "packed to " + packedTo + " by " + by + ": kind " + kind;
        T.test(name, () -> {
            int[] packed = PlainModel.packed(row);
            T.due("bytes by the model", packed.length, packedTo);
            int[] due = kind == PACKED ? packed : row;
            PackedSlots x = new PackedSlots(due.length);
            Given.buffer(x, row);
            T.due("write(31)", x.write(31), due.length);
            T.slotIs(x, 31, kind, due.length, 0);
            T.storedAre(x, 0, due);
        });
        T.test(name + ": reads back", () -> readsBack(row));
    }
}
