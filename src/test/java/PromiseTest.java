/** The promises of the document one by one: ordinary inputs, the edges that it names, wrong inputs. */
public final class PromiseTest {
    private static final int MIN = Integer.MIN_VALUE;
    private static final int MAX = Integer.MAX_VALUE;
    private static final int NONE = PackedSlots.NONE;
    private static final int UNKNOWN = PackedSlots.UNKNOWN;
    private static final int OUTSIDE = PackedSlots.OUTSIDE;
    private static final int ROOM = PackedSlots.ROOM;
    private static final Due T = new Due("PromiseTest");

    private PromiseTest() {
    }

    public static void main(String[] args) {
        T.test("promise 1: new object", PromiseTest::newObject);
        T.test("promise 2: fill", PromiseTest::fill);
        T.test("promise 3: run", PromiseTest::run);
        T.test("promise 4: copy", PromiseTest::copy);
        T.test("promise 5: octet", PromiseTest::octet);
        T.test("promise 6: write kinds", PromiseTest::writeKinds);
        T.test("promise 6: write packs", PromiseTest::writePacks);
        T.test("promise 6: write match edges", PromiseTest::writeMatchEdges);
        T.test("promise 6: write long literals", PromiseTest::writeLongLiterals);
        T.test("promise 6: write places", PromiseTest::writePlaces);
        T.test("promise 6: write refused", PromiseTest::writeRefused);
        T.test("promise 7: read", PromiseTest::read);
        T.test("promise 7: read altered", PromiseTest::readAltered);
        T.test("promise 8: trim", PromiseTest::trim);
        T.test("promise 9: slot", PromiseTest::slot);
        T.test("promise 10: stored", PromiseTest::stored);
        T.test("promise 11: alter", PromiseTest::alter);
        T.test("promise 12: compact", PromiseTest::compact);
        T.test("promise 13: free", PromiseTest::free);
        T.test("promise 14: type", PromiseTest::type);
        T.test("promise 15: decode", PromiseTest::decode);
        T.test("promise 15: decode whole", PromiseTest::decodeWhole);
        T.test("promise 15: decode errors", PromiseTest::decodeErrors);
        T.test("promise 15: decode far offsets", PromiseTest::decodeFarOffsets);
        T.test("promise 16: place", PromiseTest::place);
        T.end();
    }

    // Promise 1

    private static void newObject() {
        capacity(MIN, 0);
        capacity(-1, 0);
        capacity(0, 0);
        capacity(1, 1);
        capacity(4095, 4095);
        capacity(4096, 4096);
        capacity(4097, 4096);
        capacity(MAX, 4096);
        PackedSlots x = new PackedSlots(4096);
        for (int i = 0; i < 4096; i++) {
            if (i % 512 == 0) {
                x = new PackedSlots(4096);
            }
            T.due("stored(" + i + ") of a new object", x.stored(i), 0);
        }
        x = new PackedSlots(4096);
        for (int b = 0; b < 32; b++) {
            T.slotIs(x, b, 0, 0, NONE);
        }
        allOctets(x, 0, 256, 0);
        T.due("place() of a new object", x.place(), NONE);
        T.due("type on a new tape", x.type(0, 1), 1);
    }

    private static void capacity(int asked, int due) {
        PackedSlots x = new PackedSlots(asked);
        T.due("free(0), capacity " + asked, x.free(0), due);
        T.due("stored(due), capacity " + asked, x.stored(due), NONE);
        T.due("stored(due - 1), capacity " + asked, x.stored(due - 1), due == 0 ? NONE : 0);
        T.due("alter(due, 1), capacity " + asked, x.alter(due, 1), OUTSIDE);
    }

    // Promise 2

    private static void fill() {
        PackedSlots x = new PackedSlots(0);
        T.due("fill(0)", x.fill(0, 0x01020384), 1);
        T.octets(x, 0, 1, 2, 3, 0x84, 0);
        T.due("fill(252)", x.fill(252, 0xfffefdfc), 1);
        T.octets(x, 251, 0, 255, 254, 253, 252);
        T.due("fill(2)", x.fill(2, -1), 1);
        T.octets(x, 0, 1, 2, 255, 255, 255, 255, 0);
        for (int at : new int[] {-1, 253, 254, 255, 256, MIN, MAX}) {
            T.due("fill(" + at + ")", x.fill(at, 0x77777777), OUTSIDE);
        }
        T.octets(x, 0, 1, 2, 255, 255, 255, 255, 0);
        T.octets(x, 248, 0, 0, 0, 0, 255, 254, 253, 252);
    }

    // Promise 3

    private static void run() {
        PackedSlots x = new PackedSlots(0);
        T.due("run(0, 256, 0x1ff)", x.run(0, 256, 0x1ff), 1);
        allOctets(x, 0, 256, 255);
        T.due("run(10, 3, -2)", x.run(10, 3, -2), 1);
        T.octets(x, 9, 255, 254, 254, 254, 255);
        T.due("run(255, 1, 256)", x.run(255, 1, 256), 1);
        T.octets(x, 254, 255, 0);
        int[][] wrong = {{-1, 1}, {256, 1}, {0, 0}, {0, -1}, {0, 257}, {1, 256}, {255, 2}, {MAX, 1},
            {MIN, 1}, {0, MAX}, {0, MIN}, {255, MAX}, {MAX, MAX}, {-1, 257}};
        for (int[] w : wrong) {
            T.due("run(" + w[0] + ", " + w[1] + ", 9)", x.run(w[0], w[1], 9), OUTSIDE);
        }
        allOctets(x, 0, 10, 255);
        allOctets(x, 10, 13, 254);
        allOctets(x, 13, 255, 255);
        allOctets(x, 255, 256, 0);
    }

    // Promise 4

    private static void copy() {
        PackedSlots x = new PackedSlots(0);
        x.fill(0, 0x01020304);
        T.due("copy(4, 0, 4)", x.copy(4, 0, 4), 1);
        T.octets(x, 0, 1, 2, 3, 4, 1, 2, 3, 4, 0);
        T.due("copy(2, 0, 7)", x.copy(2, 0, 7), 1);
        T.octets(x, 0, 1, 2, 1, 2, 1, 2, 1, 2, 1, 0);
        x.fill(100, 0x05060708);
        T.due("copy(99, 100, 4)", x.copy(99, 100, 4), 1);
        T.octets(x, 98, 0, 5, 6, 7, 8, 8, 0);
        T.due("copy(99, 99, 3)", x.copy(99, 99, 3), 1);
        T.octets(x, 98, 0, 5, 6, 7, 8, 8, 0);
        T.due("copy(255, 99, 1)", x.copy(255, 99, 1), 1);
        T.octets(x, 254, 0, 5);
        T.due("copy(0, 255, 1)", x.copy(0, 255, 1), 1);
        T.octets(x, 0, 5, 2, 1);
        T.due("copy(0, 0, 256)", x.copy(0, 0, 256), 1);
        int[][] wrong = {{-1, 0, 1}, {0, -1, 1}, {256, 0, 1}, {0, 256, 1}, {0, 0, 0}, {0, 0, -1},
            {0, 0, 257}, {1, 0, 256}, {0, 1, 256}, {255, 0, 2}, {0, 255, 2}, {MAX, 0, 1}, {0, MAX, 1},
            {MIN, 0, 1}, {0, MIN, 1}, {0, 0, MAX}, {0, 0, MIN}, {255, 255, MAX}};
        for (int[] w : wrong) {
            T.due("copy(" + w[0] + ", " + w[1] + ", " + w[2] + ")", x.copy(w[0], w[1], w[2]), OUTSIDE);
        }
        T.octets(x, 0, 5, 2, 1, 2, 1, 2, 1, 2, 1, 0);
        T.due("copy(1, 0, 255)", x.copy(1, 0, 255), 1);
        allOctets(x, 0, 256, 5);
    }

    // Promise 5

    private static void octet() {
        PackedSlots x = new PackedSlots(4096);
        x.run(0, 1, 200);
        x.run(255, 1, 100);
        T.octets(x, 0, 200, 0);
        T.octets(x, 254, 0, 100);
        for (int i : new int[] {-1, 256, 257, MIN, MAX}) {
            T.due("octet(" + i + ")", x.octet(i), NONE);
        }
    }

    // Promise 6

    private static void writeKinds() {
        PackedSlots x = new PackedSlots(600);
        T.due("write of zeros", x.write(0), 0);
        T.slotIs(x, 0, 1, 0, NONE);
        x.run(0, 256, 255);
        T.due("write of one byte", x.write(31), 0);
        T.slotIs(x, 31, 1, 0, NONE);
        x.run(255, 1, 0);
        T.due("write, the last byte another", x.write(30), 11);
        T.slotIs(x, 30, 2, 11, 0);
        x.run(255, 1, 255);
        x.run(0, 1, 0);
        T.due("write, the first byte another", x.write(28), 12);
        x.run(0, 2, 255);
        x.run(1, 1, 0);
        T.due("write, the second byte another", x.write(27), 13);
        x.trim(27);
        x.trim(28);
        Given.allDifferent(x);
        T.due("write of different bytes", x.write(29), 256);
        T.slotIs(x, 29, 3, 256, 11);
        T.due("stored(11) raw", x.stored(11), 0);
        T.due("stored(266) raw", x.stored(266), 255);
        T.due("free(0)", x.free(0), 600 - 267);
        x.run(0, 256, 1);
        T.due("write of one byte over a slot", x.write(29), 0);
        T.slotIs(x, 29, 1, 0, NONE);
        T.due("free(0)", x.free(0), 600 - 11);
        for (int b : new int[] {-1, 32, 33, MIN, MAX}) {
            T.due("write(" + b + ")", x.write(b), UNKNOWN);
        }
        T.due("free(0)", x.free(0), 600 - 11);
    }

    private static void writePacks() {
        PackedSlots x = new PackedSlots(300);
        x.run(0, 256, 9);
        x.run(255, 1, 8);
        T.due("write of 9 .. 9 8", x.write(0), 11);
        // One literal, a match of 250 up to byte 251, five literals.
        T.storedAre(x, 0, 0x1f, 9, 1, 0, 250 - 19, 0x50, 9, 9, 9, 9, 8);

        x = new PackedSlots(300);
        Given.allDifferent(x);
        x.copy(100, 10, 6);
        x.copy(120, 10, 5);
        x.copy(140, 10, 6);
        // At 140 the places 10 and 100 agree in six bytes: the nearest is 100.
        T.due("write with matches", x.write(0), 252);
        T.storedAre(x, 0, 0xf2, 85);
        T.due("literal 99", x.stored(2 + 99), 99);
        T.storedAre(x, 102, 90, 0);
        // At 120 the places 10 and 100 agree in five bytes.
        T.storedAre(x, 104, 0xe1, 106);
        T.storedAre(x, 105 + 14, 20, 0);
        T.storedAre(x, 121, 0xf2, 0, 125);
        T.storedAre(x, 123 + 15, 40, 0);
        T.storedAre(x, 140, 0xf0, 110 - 15, 146);
        T.storedAre(x, 250, 254, 255, 0);

        x = new PackedSlots(300);
        Given.allDifferent(x);
        x.copy(100, 10, 8);
        x.copy(50, 10, 7);
        // The longer one is taken though another is nearer.
        x.write(0);
        T.storedAre(x, 0, 0xf3, 35);
        T.storedAre(x, 52, 40, 0);
        T.storedAre(x, 54, 0xf4, 28, 57);
        T.storedAre(x, 56 + 43, 90, 0);
    }

    private static void writeMatchEdges() {
        PackedSlots x = new PackedSlots(300);
        Given.allDifferent(x);
        x.copy(244, 10, 12);
        // 244 is the last place at which a match begins; it ends before byte 251.
        T.due("match at 244", x.write(0), 254);
        T.storedAre(x, 0, 0xf3, 244 - 15);
        T.storedAre(x, 246, 234, 0, 0x50, 17, 18, 19, 20, 21);

        x = new PackedSlots(300);
        Given.allDifferent(x);
        x.copy(245, 10, 11);
        T.due("match at 245", x.write(0), 256);
        T.slotIs(x, 0, 3, 256, 0);

        x = new PackedSlots(300);
        Given.allDifferent(x);
        x.copy(100, 10, 3);
        T.due("match of 3", x.write(0), 256);
        T.slotIs(x, 0, 3, 256, 0);
        x = new PackedSlots(300);
        Given.allDifferent(x);
        x.run(0, 100, 0);
        x.copy(200, 150, 4);
        T.due("a match of 4 is taken", x.write(0), 5 + 2 + 100 + 2 + 2 + 52);
        T.storedAre(x, 5, 0xf0, 100 - 15, 100);

        x = new PackedSlots(300);
        Given.allDifferent(x);
        // 1 2 3 4 1 2 3 4 1: the match goes beyond its own beginning.
        x.copy(5, 1, 5);
        // 1 + 5 + 2 bytes for it, 2 + 246 for the literals behind it.
        T.due("what packs to 256 is raw", x.write(0), 256);
        T.slotIs(x, 0, 3, 256, 0);
        T.due("raw bytes", x.stored(5), 1);
        x.run(10, 1, 2);
        T.due("what packs to 255 is packed", x.write(0), 255);
        T.slotIs(x, 0, 2, 255, 0);
        T.storedAre(x, 0, 0x52, 0, 1, 2, 3, 4, 4, 0, 0xf0, 245 - 15, 11);
    }

    private static void writeLongLiterals() {
        for (int literals = 13; literals <= 17; literals++) {
            PackedSlots x = new PackedSlots(300);
            Given.allDifferent(x);
            x.run(literals - 1, 257 - literals, literals - 1);
            int head = literals < 15 ? 1 : 2;
            T.due("write, literals " + literals, x.write(0), head + literals + 3 + 6);
            T.due("token, literals " + literals, x.stored(0), Math.min(literals, 15) * 16 + 15);
            if (literals >= 15) {
                T.due("further byte, literals " + literals, x.stored(1), literals - 15);
            }
            T.due("match, literals " + literals, x.stored(head + literals + 2), 251 - literals - 19);
        }
        for (int match = 17; match <= 21; match++) {
            PackedSlots x = new PackedSlots(300);
            Given.allDifferent(x);
            x.run(0, match + 1, 250);
            int head = match < 19 ? 0 : 1;
            x.run(250, 1, 1);
            T.due("write, match " + match, x.write(0), 4 + head + 2 + 255 - match);
            T.due("token, match " + match, x.stored(0), 16 + Math.min(match - 4, 15));
            if (match >= 19) {
                T.due("further byte, match " + match, x.stored(4), match - 19);
            }
        }
    }

    private static void writePlaces() {
        PackedSlots x = new PackedSlots(100);
        for (int b = 0; b < 6; b++) {
            T.due("write(" + b + ")", Given.smallBlock(x, b, 11), 11);
            T.slotIs(x, b, 2, 11, 11 * b);
        }
        // The least place with room, not the tightest.
        x.trim(0);
        x.trim(1);
        x.trim(4);
        T.due("into the first gap", Given.smallBlock(x, 7, 11), 11);
        T.slotIs(x, 7, 2, 11, 0);
        T.due("a gap that is too short is passed over", Given.smallBlock(x, 8, 12), 12);
        T.slotIs(x, 8, 2, 12, 66);
        T.due("the gap is used whole", Given.smallBlock(x, 9, 11), 11);
        T.slotIs(x, 9, 2, 11, 11);
        // A block's own slot counts as free with what lies beside it.
        x.trim(9);
        T.due("its own slot and the gap behind it", Given.smallBlock(x, 7, 12), 12);
        T.slotIs(x, 7, 2, 12, 0);
        x.trim(3);
        T.due("its own slot moves to the least place", Given.smallBlock(x, 8, 11), 11);
        T.slotIs(x, 8, 2, 11, 33);
        T.due("the same again stays", Given.smallBlock(x, 8, 11), 11);
        T.slotIs(x, 8, 2, 11, 33);
    }

    private static void writeRefused() {
        PackedSlots x = new PackedSlots(36);
        Given.smallBlock(x, 0, 11);
        Given.smallBlock(x, 1, 12);
        Given.smallBlock(x, 2, 11);
        T.due("free(0)", x.free(0), 2);
        x.trim(0);
        T.due("13 bytes free in all", x.free(0), 13);
        T.due("no room", Given.smallBlock(x, 3, 14), ROOM);
        T.slotIs(x, 3, 0, 0, NONE);
        T.slotIs(x, 1, 2, 12, 11);
        T.slotIs(x, 2, 2, 11, 23);
        T.due("room once all are put together", Given.smallBlock(x, 3, 13), 13);
        T.slotIs(x, 1, 2, 12, 0);
        T.slotIs(x, 2, 2, 11, 12);
        T.slotIs(x, 3, 2, 13, 23);
        T.due("read(1)", x.read(1), 1);
        T.due("read(2)", x.read(2), 1);
        T.due("free(0)", x.free(0), 0);
        T.due("no room, the old slot is too short", Given.smallBlock(x, 2, 12), ROOM);
        T.slotIs(x, 2, 2, 11, 12);
        T.due("what was refused is in the buffer", x.octet(255), 255);
        T.due("what was refused is not in the block", x.read(2), 1);
        T.due("room by its own slot alone", Given.smallBlock(x, 1, 12), 12);
        T.slotIs(x, 1, 2, 12, 0);
        T.due("less than its own slot", Given.smallBlock(x, 1, 11), 11);
        T.slotIs(x, 1, 2, 11, 0);
        // 11 free of its own and one: put together without the old slot.
        T.due("put together without its own slot", Given.smallBlock(x, 2, 12), 12);
        T.slotIs(x, 1, 2, 11, 0);
        T.due("place of 2", x.slot(2, 2), 11);
        x.trim(3);
        x.trim(2);
        Given.smallBlock(x, 2, 11);
        Given.smallBlock(x, 3, 11);
        T.due("13 by 11 of its own, 3 elsewhere", Given.smallBlock(x, 1, 13), 13);
        T.slotIs(x, 2, 2, 11, 0);
        T.slotIs(x, 3, 2, 11, 11);
        T.slotIs(x, 1, 2, 13, 22);
        Given.allDifferent(x);
        T.due("a raw one has no room", x.write(5), ROOM);
        T.slotIs(x, 5, 0, 0, NONE);
        T.due("an unknown one is told first", x.write(32), UNKNOWN);
        x.run(0, 256, 3);
        T.due("one byte needs no room", x.write(5), 0);
    }

    // Promise 7

    private static void read() {
        PackedSlots x = new PackedSlots(600);
        x.run(0, 256, 77);
        x.write(1);
        Given.smallBlock(x, 2, 12);
        Given.allDifferent(x);
        x.write(3);
        T.due("read of one as at first", x.read(0), 1);
        allOctets(x, 0, 256, 0);
        T.due("read of one byte", x.read(1), 1);
        allOctets(x, 0, 256, 77);
        T.due("read of a raw one", x.read(3), 1);
        for (int i = 0; i < 256; i++) {
            T.due("octet(" + i + ") of raw", x.octet(i), i);
        }
        T.due("read of a packed one", x.read(2), 1);
        T.due("its first", x.octet(0), 1);
        allOctets(x, 1, 252, 2);
        T.octets(x, 251, 2, 2, 2, 2, 255);
        for (int b : new int[] {-1, 32, MIN, MAX}) {
            T.due("read(" + b + ")", x.read(b), UNKNOWN);
        }
        T.octets(x, 251, 2, 2, 2, 2, 255);
        x.trim(1);
        T.due("read of a trimmed one", x.read(1), 1);
        allOctets(x, 0, 256, 0);
    }

    private static void readAltered() {
        PackedSlots x = new PackedSlots(300);
        // 0x1f 9 1 0 231 0x50 9 9 9 9 8
        x.run(0, 256, 9);
        x.run(255, 1, 8);
        x.write(0);
        x.run(0, 256, 33);
        readsAltered(x, 0, 0x10, -2);
        readsAltered(x, 0, 0x0f, -1);
        readsAltered(x, 2, 1, -2);
        readsAltered(x, 3, 1, -2);
        readsAltered(x, 4, 8, -3);
        readsAltered(x, 4, 1, -4);
        readsAltered(x, 5, 0x10, -1);
        readsAltered(x, 5, 0x30, -3);
        readsAltered(x, 5, 0xf0, -3);
        allOctets(x, 0, 256, 33);
        T.due("place() is not of read", x.place(), NONE);
        x.alter(10, 1);
        T.due("read of altered literals", x.read(0), 1);
        T.octets(x, 254, 9, 9);
        x.alter(4, 5);
        T.due("less than 256", x.read(0), -4);
        T.octets(x, 254, 9, 9);
        Given.allDifferent(x);
        x.write(1);
        x.alter(11, 255);
        T.due("a raw one reads altered", x.read(1), 1);
        T.octets(x, 0, 255, 1);
    }

    private static void readsAltered(PackedSlots x, int i, int mask, int due) {
        x.alter(i, mask);
        T.due("read, byte " + i + " altered by " + mask, x.read(0), due);
        x.alter(i, mask);
    }

    // Promise 8

    private static void trim() {
        PackedSlots x = new PackedSlots(300);
        Given.smallBlock(x, 0, 11);
        Given.allDifferent(x);
        x.write(1);
        x.run(0, 256, 5);
        x.write(2);
        T.due("trim of a packed one", x.trim(0), 11);
        T.slotIs(x, 0, 0, 0, NONE);
        T.due("trim again", x.trim(0), 0);
        T.due("trim of a raw one", x.trim(1), 256);
        T.slotIs(x, 1, 0, 0, NONE);
        T.due("trim of one byte", x.trim(2), 0);
        T.slotIs(x, 2, 0, 0, NONE);
        T.due("trim of one as at first", x.trim(31), 0);
        T.due("free(0)", x.free(0), 300);
        T.due("the buffer stays", x.octet(0), 5);
        T.due("what was in the slot stays", x.stored(266), 255);
        for (int b = 0; b < 3; b++) {
            x.run(0, 256, 5);
            T.due("read of a trimmed one", x.read(b), 1);
            allOctets(x, 0, 256, 0);
        }
        for (int b : new int[] {-1, 32, MIN, MAX}) {
            T.due("trim(" + b + ")", x.trim(b), UNKNOWN);
        }
    }

    // Promise 9

    private static void slot() {
        PackedSlots x = new PackedSlots(300);
        Given.smallBlock(x, 31, 11);
        T.slotIs(x, 31, 2, 11, 0);
        for (int what : new int[] {-1, 3, 4, MIN, MAX}) {
            T.due("slot(31, " + what + ")", x.slot(31, what), OUTSIDE);
            T.due("slot(32, " + what + ")", x.slot(32, what), UNKNOWN);
        }
        for (int b : new int[] {-1, 32, MIN, MAX}) {
            for (int what = 0; what < 3; what++) {
                T.due("slot(" + b + ", " + what + ")", x.slot(b, what), UNKNOWN);
            }
        }
    }

    // Promise 10

    private static void stored() {
        PackedSlots x = new PackedSlots(24);
        Given.smallBlock(x, 0, 12);
        Given.smallBlock(x, 1, 11);
        x.trim(0);
        T.storedAre(x, 0, 0x2f, 1, 2, 1, 0, 230, 0x50, 2, 2, 2, 2, 255);
        T.due("compact()", x.compact(), 11);
        // Behind the slot stays what was there.
        T.storedAre(x, 0, 0x1f, 2, 1, 0, 231, 0x50, 2, 2, 2, 2, 255, 255);
        T.storedAre(x, 12, 0x1f, 2, 1, 0, 231, 0x50, 2, 2, 2, 2, 255, 0);
        for (int i : new int[] {-1, 24, 25, MIN, MAX}) {
            T.due("stored(" + i + ")", x.stored(i), NONE);
        }
    }

    // Promise 11

    private static void alter() {
        PackedSlots x = new PackedSlots(24);
        T.due("alter(0, 0x1f0)", x.alter(0, 0x1f0), 1);
        T.due("stored(0)", x.stored(0), 0xf0);
        T.due("alter(0, 0x3c)", x.alter(0, 0x3c), 1);
        T.due("stored(0)", x.stored(0), 0xcc);
        T.due("alter(23, -1)", x.alter(23, -1), 1);
        T.due("stored(23)", x.stored(23), 255);
        T.due("stored(22)", x.stored(22), 0);
        for (int i : new int[] {-1, 24, 4096, MIN, MAX}) {
            T.due("alter(" + i + ", 1)", x.alter(i, 1), OUTSIDE);
        }
        T.due("alter(0, 0) of no bytes", new PackedSlots(0).alter(0, 0), OUTSIDE);
    }

    // Promise 12

    private static void compact() {
        PackedSlots x = new PackedSlots(100);
        T.due("compact() of nothing", x.compact(), 0);
        Given.smallBlock(x, 9, 11);
        Given.smallBlock(x, 3, 12);
        Given.smallBlock(x, 5, 13);
        Given.smallBlock(x, 1, 14);
        T.due("compact() of close ones", x.compact(), 0);
        x.trim(3);
        T.due("compact() moves two", x.compact(), 27);
        T.slotIs(x, 9, 2, 11, 0);
        T.slotIs(x, 5, 2, 13, 11);
        T.slotIs(x, 1, 2, 14, 24);
        T.due("compact() again", x.compact(), 0);
        x.trim(9);
        x.trim(1);
        T.due("compact() moves one onto itself", x.compact(), 13);
        T.slotIs(x, 5, 2, 13, 0);
        T.due("free(2)", x.free(2), 1);
        x.run(0, 256, 0);
        T.due("read of a moved one", x.read(5), 1);
        T.octets(x, 0, 1, 2, 3, 3, 3);
        T.octets(x, 254, 3, 255);
    }

    // Promise 13

    private static void free() {
        PackedSlots x = new PackedSlots(60);
        T.freeIs(x, 60, 60, 1);
        Given.smallBlock(x, 0, 11);
        Given.smallBlock(x, 1, 12);
        Given.smallBlock(x, 2, 13);
        T.freeIs(x, 24, 24, 1);
        x.trim(1);
        T.freeIs(x, 36, 24, 2);
        Given.smallBlock(x, 3, 11);
        T.freeIs(x, 25, 24, 2);
        x.trim(0);
        T.freeIs(x, 36, 24, 3);
        x.trim(3);
        T.freeIs(x, 47, 24, 2);
        x.trim(2);
        T.freeIs(x, 60, 60, 1);
        T.freeIs(new PackedSlots(0), 0, 0, 0);
        PackedSlots full = new PackedSlots(11);
        Given.smallBlock(full, 0, 11);
        T.freeIs(full, 0, 0, 0);
        for (int what : new int[] {-1, 3, MIN, MAX}) {
            T.due("free(" + what + ")", x.free(what), OUTSIDE);
        }
    }

    // Promise 14

    private static void type() {
        PackedSlots x = new PackedSlots(0);
        for (int n : new int[] {0, 5, -1, MIN, MAX}) {
            T.due("type(1, " + n + ")", x.type(1, n), OUTSIDE);
        }
        T.due("type 1", x.type(0x778899a0, 1), 1);
        T.due("type 2", x.type(0x77880102, 2), 3);
        T.due("type 3", x.type(0x77030405, 3), 6);
        T.due("type 4", x.type(0xf6070809, 4), 10);
        T.due("type 1", x.type(10, 1), 11);
        T.due("decode()", x.decode(), 10);
        T.octets(x, 0, 1, 2, 3, 4, 5, 0xf6, 7, 8, 9, 10, 0);
        for (int k = 1; k <= 149; k++) {
            T.due("type", x.type(0, 4), 4 * k);
        }
        T.due("type to 599", x.type(0, 3), 599);
        T.due("more than 600", x.type(0, 2), ROOM);
        T.due("more than 600", x.type(0, 4), ROOM);
        T.due("outside is told first", x.type(0, 5), OUTSIDE);
        T.due("type to 600", x.type(0, 1), 600);
        T.due("more than 600", x.type(0, 1), ROOM);
        T.due("outside is told first", x.type(0, 0), OUTSIDE);
        T.due("decode()", x.decode(), -2);
        T.due("empty then", x.type(0, 4), 4);
    }

    // Promise 15

    private static void decode() {
        PackedSlots x = new PackedSlots(0);
        x.run(0, 256, 99);
        decodes(x, 0, 0x00);
        T.octets(x, 0, 99, 99);
        decodes(x, 1, 0x10, 98);
        T.octets(x, 0, 98, 99);
        decodes(x, 2, 0x2f, 1, 2);
        T.octets(x, 0, 1, 2, 99);
        decodes(x, 7, 0x30, 1, 2, 3, 3, 0, 0x00);
        T.octets(x, 0, 1, 2, 3, 1, 2, 3, 1, 99);
        decodes(x, 8, 0x31, 1, 2, 3, 1, 0, 0x00);
        T.octets(x, 0, 1, 2, 3, 3, 3, 3, 3, 3, 99);
        decodes(x, 9, 0x20, 7, 8, 2, 0, 0x3f, 4, 5, 6);
        T.octets(x, 0, 7, 8, 7, 8, 7, 8, 4, 5, 6, 99);
        // An offset may go back before the sequence's own literals.
        decodes(x, 10, 0x20, 7, 8, 2, 0, 0x00, 6, 0, 0x00);
        T.octets(x, 0, 7, 8, 7, 8, 7, 8, 7, 8, 7, 8, 99);
        decodes(x, 15, 0xf0, 0, 1, 2, 3, 4, 5, 6, 7, 8, 9, 10, 11, 12, 13, 14, 15);
        T.octets(x, 13, 14, 15, 99);
        decodes(x, 16, 0xf0, 1, 1, 2, 3, 4, 5, 6, 7, 8, 9, 10, 11, 12, 13, 14, 15, 16);
        T.octets(x, 14, 15, 16, 99);
        decodes(x, 20, 0x1f, 5, 1, 0, 0, 0x00);
        T.octets(x, 19, 5, 99);
        decodes(x, 256, 0x1f, 5, 1, 0, 236, 0x00);
        allOctets(x, 0, 256, 5);
        decodes(x, 256, 0x1f, 6, 1, 0, 235, 0x10, 4);
        T.octets(x, 254, 6, 4);
    }

    private static void decodeWhole() {
        PackedSlots x = new PackedSlots(0);
        x.type(0xf0f1, 2);
        for (int i = 0; i < 64; i++) {
            x.type(0x01010101 * i, 4);
        }
        T.due("256 literals", x.decode(), 256);
        T.octets(x, 0, 0, 0, 0, 0, 1);
        T.octets(x, 255, 63);
        T.due("place()", x.place(), NONE);
        x.type(0xf0ed, 2);
        for (int i = 0; i < 252; i++) {
            x.type(i, 1);
        }
        x.type(0xfc0000, 3);
        T.due("an offset of all that was put out", x.decode(), 256);
        T.octets(x, 250, 250, 251, 0, 1, 2, 3);
    }

    private static void decodeErrors() {
        PackedSlots x = new PackedSlots(0);
        x.run(0, 256, 99);
        errs(x, 1, 0);
        errs(x, 1, 1, 0x10);
        errs(x, 1, 2, 0x20, 1);
        errs(x, 1, 1, 0xf0);
        errs(x, 1, 2, 0xf0, 255);
        errs(x, 1, 5, 0xf0, 0, 1, 2, 3);
        errs(x, 1, 3, 0x10, 1, 1);
        errs(x, 1, 4, 0x10, 1, 1, 0);
        errs(x, 1, 4, 0x1f, 1, 1, 0);
        errs(x, 1, 5, 0x1f, 1, 1, 0, 255);
        errs(x, 1, 5, 0x1f, 1, 1, 0, 3);
        errs(x, 1, 8, 0x10, 1, 1, 0, 0x00, 1, 0, 0x20);
        errs(x, 2, 2, 0x10, 1, 0, 0, 0x00);
        errs(x, 2, 2, 0x10, 1, 2, 0, 0x00);
        errs(x, 2, 2, 0x10, 1, 1, 1, 0x00);
        errs(x, 2, 2, 0x10, 1, 0, 1, 0x00);
        errs(x, 2, 1, 0x00, 1, 0);
        errs(x, 2, 5, 0x10, 1, 1, 0, 0x00, 6, 0, 0x00);
        // The offset is looked at before the match's length lacks a byte.
        errs(x, 2, 2, 0x1f, 1, 0, 0);
        errs(x, 2, 2, 0x1f, 1, 2, 0, 255, 255, 0);
        // Literals too many are told before it is seen that they lack.
        errs(x, 3, 0, 0xf0, 242);
        errs(x, 3, 0, 0xf0, 255, 0);
        errs(x, 1, 2, 0xf0, 241);
        errs(x, 3, 0, 0x1f, 1, 1, 0, 237, 0x00);
        errs(x, 3, 0, 0x1f, 1, 1, 0, 237);
        errs(x, 3, 0, 0x1f, 1, 1, 0, 255, 0);
        errs(x, 1, 5, 0x1f, 1, 1, 0, 236);
        errs(x, 3, 5, 0x1f, 1, 1, 0, 236, 0x10);
        errs(x, 3, 5, 0x1f, 1, 1, 0, 235, 0x20, 1, 1);
        errs(x, 3, 5, 0x1f, 1, 1, 0, 233, 0x00, 1, 0, 0);
        errs(x, 1, 6, 0x1f, 1, 1, 0, 236, 0xf0);
        allOctets(x, 0, 256, 99);
    }

    private static void decodeFarOffsets() {
        for (int literals = 255; literals <= 256; literals++) {
            PackedSlots x = new PackedSlots(0);
            x.type(0xf000 + literals - 15, 2);
            for (int i = 0; i < literals; i++) {
                x.type(i, 1);
            }
            x.type(0x0001, 2);
            T.due("an offset of 256 behind " + literals, x.decode(), literals == 255 ? -2 : -3);
            T.due("place()", x.place(), literals == 255 ? 257 : 0);
        }
    }

    private static void decodes(PackedSlots x, int due, int... bytes) {
        typeAll(x, bytes);
        T.due("decode() of " + bytes.length + " bytes", x.decode(), due);
        T.due("place() behind it", x.place(), NONE);
    }

    private static void errs(PackedSlots x, int error, int place, int... bytes) {
        typeAll(x, bytes);
        String what = "decode() of " + java.util.Arrays.toString(bytes);
        T.due(what, x.decode(), -error);
        T.due("place() of " + what, x.place(), place);
        T.due("octet(0) behind " + what, x.octet(0), 99);
        T.due("place() again of " + what, x.place(), place);
    }

    private static void typeAll(PackedSlots x, int... bytes) {
        for (int i = 0; i < bytes.length; i++) {
            T.due("type", x.type(bytes[i], 1), i + 1);
        }
    }

    // Promise 16

    private static void place() {
        PackedSlots x = new PackedSlots(100);
        T.due("place() before any", x.place(), NONE);
        x.type(0x10, 1);
        T.due("place() is not of type", x.place(), NONE);
        x.decode();
        T.due("place()", x.place(), 1);
        Given.smallBlock(x, 0, 11);
        x.read(0);
        T.due("place() is not of a good read", x.place(), 1);
        x.alter(2, 1);
        T.due("a bad read", x.read(0), -2);
        T.due("place() is not of a bad read", x.place(), 1);
        x.type(0, 1);
        T.due("place() stays until decode", x.place(), 1);
        x.decode();
        T.due("place() behind a good decode", x.place(), NONE);
        x.decode();
        T.due("place() of nothing at all", x.place(), 0);
    }

    // What several promises use

    /** Looks at the ends and some between, for an object is good for 512 calls only. */
    private static void allOctets(PackedSlots x, int from, int end, int due) {
        for (int i = from; i < end; i += 15) {
            T.due("octet(" + i + ")", x.octet(i), due);
        }
        T.due("octet(" + (end - 1) + ")", x.octet(end - 1), due);
    }
}
