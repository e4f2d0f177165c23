/** The edges of slots in the store (promises 6 to 13), each by a test of its own. */
public final class StoreEdgesTest {
    private static final int MIN = Integer.MIN_VALUE;
    private static final int MAX = Integer.MAX_VALUE;
    private static final int NONE = PackedSlots.NONE;
    private static final int UNKNOWN = PackedSlots.UNKNOWN;
    private static final int OUTSIDE = PackedSlots.OUTSIDE;
    private static final int ROOM = PackedSlots.ROOM;
    private static final int FRESH = 0, SAME = 1, PACKED = 2, RAW = 3;
    private static final Due T = new Due("StoreEdgesTest");

    private StoreEdgesTest() {
    }

    public static void main(String[] args) {
        whichBlocksThereAre();
        howMuchRoom();
        manySlots();
        leastPlace();
        oldSlotIsFree();
        putTogetherByWrite();
        kindsOverOneAnother();
        read();
        readErrors();
        trim();
        slot();
        stored();
        alter();
        compact();
        free();
        T.end();
    }

    // Terms: "blocks 0 .. 31", "UNKNOWN (there is no such block)"

    private static void whichBlocksThereAre() {
        for (int b : new int[] {0, 1, 30, 31}) {
            T.test("block " + b + " can be written, looked at, read and trimmed", () -> {
                PackedSlots x = new PackedSlots(100);
                T.due("write", Given.smallBlock(x, b, 11), 11);
                T.slotIs(x, b, PACKED, 11, 0);
                T.due("read", x.read(b), 1);
                T.due("trim", x.trim(b), 11);
            });
        }
        for (int b : new int[] {MIN, -1, 32, 33, 256, MAX}) {
            T.test("write of block " + b + ", which there is not", () -> {
                PackedSlots x = new PackedSlots(100);
                Given.small(x, 11);
                T.due("write", x.write(b), UNKNOWN);
                x.run(0, 256, 3);
                T.due("write of one byte", x.write(b), UNKNOWN);
                T.freeIs(x, 100, 100, 1);
            });
            T.test("read of block " + b + ", which there is not", () -> {
                PackedSlots x = new PackedSlots(100);
                x.run(0, 256, 3);
                T.due("read", x.read(b), UNKNOWN);
                T.octetsAll(x, 0, 256, 3);
            });
            T.test("trim of block " + b + ", which there is not", () -> {
                PackedSlots x = Given.slots(100, 11);
                T.due("trim", x.trim(b), UNKNOWN);
                T.freeIs(x, 89, 89, 1);
            });
            T.test("slot of block " + b + ", which there is not", () -> {
                PackedSlots x = new PackedSlots(100);
                for (int what : new int[] {0, 1, 2}) {
                    T.due("slot(" + b + ", " + what + ")", x.slot(b, what), UNKNOWN);
                }
                for (int what : new int[] {MIN, -1, 3, MAX}) {
                    T.due("UNKNOWN comes before OUTSIDE: slot(" + b + ", " + what + ")", x.slot(b, what), UNKNOWN);
                }
            });
            T.test("write of block " + b + " is UNKNOWN also when there is no room", () -> {
                PackedSlots x = new PackedSlots(0);
                Given.small(x, 11);
                T.due("write", x.write(b), UNKNOWN);
            });
        }
    }

    // "ROOM": a store that is just large enough, and one that is a byte too small

    private static void howMuchRoom() {
        T.test("a store of no bytes takes SAME blocks only", () -> {
            PackedSlots x = new PackedSlots(0);
            T.due("write of zeros", x.write(0), 0);
            T.slotIs(x, 0, SAME, 0, NONE);
            T.due("write of packed ones", Given.smallBlock(x, 1, 11), ROOM);
            T.slotIs(x, 1, FRESH, 0, NONE);
            T.freeIs(x, 0, 0, 0);
            T.due("compact()", x.compact(), 0);
        });
        T.test("11 bytes into a store of 10", () -> {
            PackedSlots x = new PackedSlots(10);
            T.due("write", Given.smallBlock(x, 1, 11), ROOM);
            T.slotIs(x, 1, FRESH, 0, NONE);
            T.freeIs(x, 10, 10, 1);
            T.storedAre(x, 0, Given.times(10, 0));
        });
        T.test("11 bytes into a store of 11", () -> {
            PackedSlots x = new PackedSlots(11);
            T.due("write", Given.smallBlock(x, 1, 11), 11);
            T.slotIs(x, 1, PACKED, 11, 0);
            T.freeIs(x, 0, 0, 0);
            T.storedAre(x, 0, Given.smallPacked(11));
        });
        T.test("256 raw bytes into a store of 255", () -> {
            PackedSlots x = new PackedSlots(255);
            Given.allDifferent(x);
            T.due("write", x.write(1), ROOM);
            T.slotIs(x, 1, FRESH, 0, NONE);
            T.storedAre(x, 0, Given.times(255, 0));
        });
        T.test("256 raw bytes into a store of 256", () -> {
            PackedSlots x = new PackedSlots(256);
            Given.allDifferent(x);
            T.due("write", x.write(1), 256);
            T.slotIs(x, 1, RAW, 256, 0);
            T.freeIs(x, 0, 0, 0);
            T.storedAre(x, 0, Given.count(0, 256));
        });
        T.test("a full store takes a SAME block", () -> {
            PackedSlots x = Given.slots(11, 11);
            x.run(0, 256, 5);
            T.due("write(1)", x.write(1), 0);
            T.slotIs(x, 1, SAME, 0, NONE);
        });
        T.test("a full store takes a block in place of itself", () -> {
            PackedSlots x = Given.slots(24, 12, 12);
            T.due("write(1)", Given.smallBlock(x, 1, 12), 12);
            T.slotIs(x, 1, PACKED, 12, 12);
            T.due("write(0)", Given.smallBlock(x, 0, 12), 12);
            T.slotIs(x, 0, PACKED, 12, 0);
        });
        T.test("a full store refuses a block that is one byte longer than itself", () -> {
            PackedSlots x = Given.slots(24, 12, 12);
            T.due("write(1)", Given.smallBlock(x, 1, 13), ROOM);
            T.slotIs(x, 1, PACKED, 12, 12);
            T.storedAre(x, 12, Given.smallPacked(12));
        });
    }

    // The most slots there can be, and the most bytes

    private static void manySlots() {
        T.test("16 raw blocks fill a store of 4096", () -> {
            PackedSlots x = rawBlocks(4096, 16);
            for (int b = 0; b < 16; b++) {
                T.slotIs(x, b, RAW, 256, 256 * b);
            }
            T.freeIs(x, 0, 0, 0);
            T.due("a 17th", x.write(16), ROOM);
            T.due("stored(4095)", x.stored(4095), 255);
            T.due("trim(15)", x.trim(15), 256);
            T.due("a 17th in its place", x.write(31), 256);
            T.slotIs(x, 31, RAW, 256, 3840);
        });
        T.test("16 raw blocks do not fill a store of 4095", () -> {
            PackedSlots x = rawBlocks(4095, 15);
            T.due("a 16th", x.write(15), ROOM);
            T.freeIs(x, 255, 255, 1);
        });
        T.test("a store that was asked for too large has room for 16 raw blocks", () -> {
            PackedSlots x = rawBlocks(5000, 16);
            T.due("a 17th", x.write(16), ROOM);
        });
        T.test("32 slots, as many as blocks", () -> {
            PackedSlots x = thirtyTwo();
            for (int b = 0; b < 32; b++) {
                T.slotIs(x, b, PACKED, 11, 11 * b);
            }
            T.freeIs(x, 0, 0, 0);
        });
        T.test("32 slots, the first one written again", () -> {
            PackedSlots x = thirtyTwo();
            T.due("write(0)", x.write(0), 11);
            T.slotIs(x, 0, PACKED, 11, 0);
            T.slotIs(x, 31, PACKED, 11, 341);
        });
        T.test("32 slots, the last one written again", () -> {
            PackedSlots x = thirtyTwo();
            T.due("write(31)", x.write(31), 11);
            T.slotIs(x, 31, PACKED, 11, 341);
        });
        T.test("32 slots, one for itself and a trimmed one put together", () -> {
            PackedSlots x = thirtyTwo();
            x.trim(20);
            T.due("write(3)", Given.smallBlock(x, 3, 22), 22);
            T.slotIs(x, 4, PACKED, 11, 33);
            T.slotIs(x, 19, PACKED, 11, 198);
            T.slotIs(x, 21, PACKED, 11, 209);
            T.slotIs(x, 31, PACKED, 11, 319);
            T.slotIs(x, 3, PACKED, 22, 330);
            T.due("free(0)", x.free(0), 0);
        });
        T.test("32 slots, every second one trimmed", () -> {
            PackedSlots x = thirtyTwo();
            for (int b = 0; b < 32; b += 2) {
                x.trim(b);
            }
            T.freeIs(x, 176, 11, 16);
            T.due("compact()", x.compact(), 176);
            T.freeIs(x, 176, 176, 1);
            T.slotIs(x, 31, PACKED, 11, 165);
        });
    }

    private static PackedSlots rawBlocks(int capacity, int blocks) {
        PackedSlots x = new PackedSlots(capacity);
        Given.allDifferent(x);
        for (int b = 0; b < blocks; b++) {
            x.write(b);
        }
        return x;
    }

    private static PackedSlots thirtyTwo() {
        PackedSlots x = new PackedSlots(352);
        Given.small(x, 11);
        for (int b = 0; b < 32; b++) {
            x.write(b);
        }
        return x;
    }

    // "the new slot is at the least place with free bytes enough behind it (up to the next slot or the end)"

    private static void leastPlace() {
        T.test("the first slot is at 0", () -> placed(new PackedSlots(50), 7, 13, 0));
        T.test("behind the last slot, up to the end exactly", () -> placed(Given.slots(35, 11, 11), 7, 13, 22));
        T.test("behind the last slot, more than enough", () -> placed(Given.slots(50, 11, 11), 7, 13, 22));
        T.test("before the first slot exactly", () -> placed(trimmed(0, 60, 13, 11), 7, 13, 0));
        T.test("before the first slot, more than enough", () -> placed(trimmed(0, 60, 14, 11), 7, 13, 0));
        T.test("before the first slot one byte lacks", () -> placed(trimmed(0, 60, 12, 11), 7, 13, 23));
        T.test("between two slots exactly", () -> placed(trimmed(1, 60, 11, 13, 11), 7, 13, 11));
        T.test("between two slots one byte lacks", () -> placed(trimmed(1, 60, 11, 12, 11), 7, 13, 34));
        T.test("the least place, though a later one fits exactly", () -> {
            PackedSlots x = Given.slots(90, 20, 11, 13, 11);
            x.trim(0);
            x.trim(2);
            placed(x, 7, 13, 0);
            T.freeIs(x, 55, 35, 3);
        });
        T.test("the least place of two that are the same", () -> {
            PackedSlots x = Given.slots(90, 11, 13, 11, 13, 11);
            x.trim(3);
            x.trim(1);
            placed(x, 7, 13, 11);
            placed(x, 8, 13, 35);
        });
        T.test("two slots that were side by side are one free row", () -> {
            PackedSlots x = Given.slots(90, 11, 11, 11, 11);
            x.trim(2);
            x.trim(1);
            placed(x, 7, 22, 11);
        });
        T.test("one byte more than such a row goes behind the last slot", () -> {
            PackedSlots x = Given.slots(90, 11, 11, 11, 11);
            x.trim(1);
            x.trim(2);
            placed(x, 7, 23, 44);
        });
        T.test("what is left of a row takes a slot too", () -> {
            PackedSlots x = trimmed(0, 60, 22, 11);
            placed(x, 7, 11, 0);
            placed(x, 8, 11, 11);
            placed(x, 9, 11, 33);
        });
    }

    /** Slots of these sizes, and one of them trimmed. */
    private static PackedSlots trimmed(int block, int capacity, int... sizes) {
        PackedSlots x = Given.slots(capacity, sizes);
        x.trim(block);
        return x;
    }

    /** A block of so many bytes is written, has its slot at a place and its bytes in it. */
    private static void placed(PackedSlots x, int block, int bytes, int place) {
        T.due("write(" + block + ")", Given.smallBlock(x, block, bytes), bytes);
        T.slotIs(x, block, PACKED, bytes, place);
        T.storedAre(x, place, Given.smallPacked(bytes));
    }

    // "its old slot is free (also for the new one)"

    private static void oldSlotIsFree() {
        T.test("the old slot exactly", () -> placed(Given.slots(33, 11, 11, 11), 1, 11, 11));
        T.test("a part of the old slot", () -> {
            PackedSlots x = Given.slots(36, 11, 14, 11);
            placed(x, 1, 11, 11);
            T.freeIs(x, 3, 3, 1);
            T.due("what was behind it in the old slot stays", x.stored(24), 255);
        });
        T.test("the old slot and what is free behind it", () -> {
            PackedSlots x = trimmed(1, 33, 11, 11, 11);
            placed(x, 0, 22, 0);
        });
        T.test("the old slot and what is free before it", () -> {
            PackedSlots x = trimmed(0, 33, 11, 11, 11);
            placed(x, 1, 22, 0);
            T.slotIs(x, 2, PACKED, 11, 22);
        });
        T.test("the old slot and what is free on both sides", () -> {
            PackedSlots x = trimmed(0, 44, 11, 11, 11, 11);
            x.trim(2);
            placed(x, 1, 24, 0);
            T.slotIs(x, 3, PACKED, 11, 33);
            T.freeIs(x, 9, 9, 1);
        });
        T.test("the old slot and the end of the store", () -> placed(Given.slots(24, 11, 11), 1, 13, 11));
        T.test("a lesser place is taken though the old slot would do", () -> {
            PackedSlots x = trimmed(0, 44, 11, 11, 11, 11);
            placed(x, 3, 11, 0);
            T.freeIs(x, 11, 11, 1);
            T.storedAre(x, 33, Given.smallPacked(11));
        });
        T.test("the old slot is taken rather than a later place", () -> {
            PackedSlots x = trimmed(2, 44, 11, 11, 11, 11);
            placed(x, 0, 11, 0);
        });
        T.test("the old slot is too short, a later row is not", () -> {
            PackedSlots x = Given.slots(50, 11, 11);
            placed(x, 0, 12, 22);
            T.freeIs(x, 27, 16, 2);
            T.storedAre(x, 0, Given.smallPacked(11));
        });
    }

    // "if there is none, but enough free ones in all, all slots are put together first; if there are not, it is refused"

    private static void putTogetherByWrite() {
        T.test("enough in all exactly", () -> {
            PackedSlots x = trimmed(0, 36, 11, 12, 11);
            placed(x, 3, 13, 23);
            T.slotIs(x, 1, PACKED, 12, 0);
            T.slotIs(x, 2, PACKED, 11, 12);
            T.storedAre(x, 0, Given.smallPacked(12));
            T.storedAre(x, 12, Given.smallPacked(11));
            T.freeIs(x, 0, 0, 0);
        });
        T.test("enough in all and more", () -> {
            PackedSlots x = trimmed(0, 36, 11, 12, 11);
            placed(x, 3, 12, 23);
            T.freeIs(x, 1, 1, 1);
        });
        T.test("one byte lacks in all", () -> {
            PackedSlots x = trimmed(0, 36, 11, 12, 11);
            T.due("write(3)", Given.smallBlock(x, 3, 14), ROOM);
            T.slotIs(x, 3, FRESH, 0, NONE);
            T.slotIs(x, 1, PACKED, 12, 11);
            T.slotIs(x, 2, PACKED, 11, 23);
            T.freeIs(x, 13, 11, 2);
            T.storedAre(x, 0, Given.smallPacked(11));
            T.storedAre(x, 11, Given.smallPacked(12));
        });
        T.test("nothing is put together when a row is long enough", () -> {
            PackedSlots x = trimmed(0, 36, 11, 12, 11);
            placed(x, 3, 11, 0);
            T.slotIs(x, 1, PACKED, 12, 11);
            T.slotIs(x, 2, PACKED, 11, 23);
        });
        T.test("the old slot counts for what is free in all", () -> {
            PackedSlots x = Given.slots(36, 11, 11, 11);
            placed(x, 0, 14, 22);
            T.slotIs(x, 1, PACKED, 11, 0);
            T.slotIs(x, 2, PACKED, 11, 11);
            T.freeIs(x, 0, 0, 0);
        });
        T.test("one byte lacks with the old slot", () -> {
            PackedSlots x = Given.slots(36, 11, 11, 11);
            T.due("write(0)", Given.smallBlock(x, 0, 15), ROOM);
            T.slotIs(x, 0, PACKED, 11, 0);
            T.slotIs(x, 1, PACKED, 11, 11);
            T.slotIs(x, 2, PACKED, 11, 22);
            T.storedAre(x, 0, Given.smallPacked(11));
        });
        T.test("the old slot between others is not put together with them", () -> {
            PackedSlots x = Given.slots(36, 11, 12, 11);
            placed(x, 1, 14, 22);
            T.slotIs(x, 0, PACKED, 11, 0);
            T.slotIs(x, 2, PACKED, 11, 11);
        });
        T.test("put together by places, not by blocks", () -> {
            PackedSlots x = new PackedSlots(49);
            Given.smallBlock(x, 9, 11);
            Given.smallBlock(x, 5, 12);
            Given.smallBlock(x, 1, 13);
            Given.smallBlock(x, 3, 11);
            x.trim(9);
            T.due("trim(1)", x.trim(1), 13);
            placed(x, 7, 24, 23);
            T.slotIs(x, 5, PACKED, 12, 0);
            T.slotIs(x, 3, PACKED, 11, 12);
        });
        T.test("what was in the old slot stays behind the new one", () -> {
            PackedSlots x = trimmed(0, 36, 11, 12, 11);
            placed(x, 2, 14, 12);
            T.slotIs(x, 1, PACKED, 12, 0);
            T.storedAre(x, 26, java.util.Arrays.copyOfRange(Given.smallPacked(11), 3, 11));
            T.storedAre(x, 34, 0, 0);
            T.freeIs(x, 10, 10, 1);
        });
        T.test("a raw block by putting together", () -> {
            PackedSlots x = new PackedSlots(299);
            Given.smallBlock(x, 0, 22);
            Given.smallBlock(x, 1, 22);
            x.trim(0);
            Given.allDifferent(x);
            T.due("write(2)", x.write(2), 256);
            T.slotIs(x, 1, PACKED, 22, 0);
            T.slotIs(x, 2, RAW, 256, 22);
            T.storedAre(x, 22, Given.count(0, 256));
            T.due("read(1)", x.read(1), 1);
        });
        T.test("a raw block, and one byte lacks", () -> {
            PackedSlots x = new PackedSlots(277);
            Given.smallBlock(x, 0, 22);
            Given.smallBlock(x, 1, 22);
            x.trim(0);
            Given.allDifferent(x);
            T.due("write(2)", x.write(2), ROOM);
            T.slotIs(x, 1, PACKED, 22, 22);
        });
    }

    // "WRITTEN, a block is SAME .. PACKED .. RAW": each over each

    private static void kindsOverOneAnother() {
        for (int before = FRESH; before <= RAW; before++) {
            for (int after = SAME; after <= RAW; after++) {
                int first = before;
                int then = after;
                T.test("kind " + then + " over kind " + first, () -> over(first, then));
            }
        }
        // A RAW block is never refused: its own slot is as long as any.
        for (int before = FRESH; before <= PACKED; before++) {
            int kept = before;
            T.test("a refused block stays of kind " + kept, () -> {
                PackedSlots x = new PackedSlots(266);
                writeKind(x, 4, kept);
                int size = x.slot(4, 1);
                int place = x.slot(4, 2);
                Given.smallBlock(x, 5, 11);
                Given.allDifferent(x);
                T.due("write(4)", x.write(4), ROOM);
                T.slotIs(x, 4, kept, size, place);
                T.due("read(4)", x.read(4), 1);
                T.due("octet(1)", x.octet(1), kept == FRESH ? 0 : kept == SAME ? 77 : 2);
            });
        }
    }

    private static void over(int before, int after) {
        PackedSlots x = new PackedSlots(300);
        writeKind(x, 4, before);
        writeKind(x, 4, after);
        int size = after == SAME ? 0 : after == PACKED ? 11 : 256;
        T.slotIs(x, 4, after, size, after == SAME ? NONE : 0);
        T.freeIs(x, 300 - size, 300 - size, 1);
        x.run(0, 256, 99);
        T.due("read(4)", x.read(4), 1);
        T.octets(x, 0, after == SAME ? 77 : after == PACKED ? 2 : 0, after == SAME ? 77 : after == PACKED ? 2 : 1);
        T.octets(x, 255, after == SAME ? 77 : 255);
    }

    private static void writeKind(PackedSlots x, int block, int kind) {
        if (kind == SAME) {
            x.run(0, 256, 77);
        } else if (kind == PACKED) {
            Given.small(x, 11);
        } else if (kind == RAW) {
            Given.allDifferent(x);
        }
        if (kind != FRESH) {
            x.write(block);
        }
    }

    // Promise 7: "a block comes into the buffer: 1"

    private static void read() {
        T.test("read of a block as at first", () -> readIs(Given.slots(100, 11), 5, Given.times(256, 0)));
        T.test("read of a trimmed block", () -> readIs(trimmed(0, 100, 11), 0, Given.times(256, 0)));
        T.test("read of a SAME block that was trimmed", () -> {
            PackedSlots x = new PackedSlots(0);
            writeKind(x, 0, SAME);
            x.trim(0);
            readIs(x, 0, Given.times(256, 0));
        });
        T.test("read of a SAME block does not look at the store", () -> {
            PackedSlots x = new PackedSlots(20);
            writeKind(x, 0, SAME);
            for (int i = 0; i < 20; i++) {
                x.alter(i, 255);
            }
            readIs(x, 0, Given.times(256, 77));
        });
        T.test("read of a PACKED block", () ->
            readIs(Given.slots(100, 11, 12), 1, Given.join(Given.bytes(1), Given.times(254, 2), Given.bytes(255))));
        T.test("read of a RAW block", () -> {
            PackedSlots x = new PackedSlots(256);
            writeKind(x, 0, RAW);
            readIs(x, 0, Given.count(0, 256));
        });
        T.test("read of a RAW block that was altered", () -> {
            PackedSlots x = new PackedSlots(256);
            writeKind(x, 0, RAW);
            x.alter(0, 255);
            x.alter(255, 1);
            readIs(x, 0, Given.join(Given.bytes(255), Given.count(1, 255), Given.bytes(254)));
        });
        T.test("read of a PACKED block whose literal was altered", () -> {
            PackedSlots x = Given.slots(11, 11);
            x.alter(1, 1);
            readIs(x, 0, Given.join(Given.times(251, 3), Given.times(4, 2), Given.bytes(255)));
        });
        T.test("read of a block when free bytes beside it were altered", () -> {
            PackedSlots x = trimmed(1, 33, 11, 11, 11);
            for (int i = 11; i < 22; i++) {
                x.alter(i, 255);
            }
            readIs(x, 0, Given.join(Given.times(255, 2), Given.bytes(255)));
            readIs(x, 2, Given.join(Given.times(255, 2), Given.bytes(255)));
        });
        T.test("read takes a block's bytes as written, not the buffer's of later", () -> {
            PackedSlots x = Given.slots(100, 11);
            x.run(0, 256, 1);
            readIs(x, 0, Given.join(Given.times(255, 2), Given.bytes(255)));
        });
    }

    private static void readIs(PackedSlots x, int block, int[] due) {
        x.run(0, 200, 98);
        T.due("read(" + block + ")", x.read(block), 1);
        T.octets(x, 0, due);
    }

    // "minus the ERROR when its slot is PACKED and does not read, -4 when it reads to less than 256 bytes (the buffer stays then)"

    private static void readErrors() {
        // Of 11 bytes: 0x1f 2 1 0 231 0x50 2 2 2 2 255.
        readErrs("the offset is 0", -2, 2, 1);
        readErrs("the offset is 2, one was put out", -2, 2, 3);
        readErrs("the offset's higher byte", -2, 3, 1);
        readErrs("one byte more by the match, so that the literals do not fit", -3, 4, 231 ^ 232);
        readErrs("one byte less by the match: 255", -4, 4, 231 ^ 230);
        readErrs("the least by the match: 25", -4, 4, 231);
        readErrs("the match's length goes on: 255 and then 0x50", -3, 4, 231 ^ 255);
        readErrs("one literal more in the end", -3, 5, 0x50 ^ 0x60);
        readErrs("one literal less: the offset's second byte lacks", -1, 5, 0x50 ^ 0x40);
        readErrs("no literals at first: nothing was put out", -2, 0, 0x10);
        readErrs("two literals at first: the offset is read one byte later", -2, 0, 0x30);
        readErrs("three literals in the end: what is behind them is a wrong offset", -2, 5, 0x50 ^ 0x30);
        T.test("bytes lack at the end of the slot, though the store goes on behind it", () -> {
            PackedSlots x = Given.slots(33, 11, 11, 11);
            x.alter(4, 231 ^ 230);
            x.alter(5, 0x50 ^ 0x60);
            stays(x, 0, -1);
            stays(x, 1, 1);
        });
        T.test("an error that is mended by altering it back", () -> {
            PackedSlots x = Given.slots(33, 11);
            x.alter(2, 1);
            stays(x, 0, -2);
            x.alter(2, 1);
            T.due("read(0)", x.read(0), 1);
            T.octets(x, 0, 2, 2);
        });
        T.test("an error that is mended by writing the block again", () -> {
            PackedSlots x = Given.slots(33, 11);
            x.alter(2, 1);
            T.due("write(0)", Given.smallBlock(x, 0, 11), 11);
            T.due("read(0)", x.read(0), 1);
        });
        T.test("an altered slot is moved as it is", () -> {
            PackedSlots x = Given.slots(33, 11, 11);
            x.alter(11 + 2, 1);
            x.trim(0);
            T.due("compact()", x.compact(), 11);
            stays(x, 1, -2);
            T.due("stored(2)", x.stored(2), 0);
        });
    }

    private static void readErrs(String name, int due, int at, int mask) {
        T.test("read fails: " + name, () -> {
            PackedSlots x = Given.slots(33, 11, 11);
            x.alter(11 + at, mask);
            stays(x, 1, due);
            T.due("the other block reads", x.read(0), 1);
            T.slotIs(x, 1, PACKED, 11, 11);
        });
    }

    private static void stays(PackedSlots x, int block, int due) {
        x.run(0, 256, 98);
        T.due("read(" + block + ")", x.read(block), due);
        if (due < 0) {
            for (int i = 0; i < 256; i += 5) {
                T.due("octet(" + i + ")", x.octet(i), 98);
            }
        }
    }

    // Promise 8: "a block is as at first (bytes 0), and has no slot: how many bytes that had"

    private static void trim() {
        for (int kind = FRESH; kind <= RAW; kind++) {
            int was = kind;
            T.test("trim of kind " + kind, () -> {
                PackedSlots x = new PackedSlots(300);
                writeKind(x, 31, was);
                T.due("trim(31)", x.trim(31), was == RAW ? 256 : was == PACKED ? 11 : 0);
                T.slotIs(x, 31, FRESH, 0, NONE);
                T.freeIs(x, 300, 300, 1);
                T.due("trim(31) again", x.trim(31), 0);
                T.slotIs(x, 31, FRESH, 0, NONE);
            });
        }
        T.test("trim leaves the buffer and the bytes of the slot", () -> {
            PackedSlots x = trimmed(0, 20, 11);
            T.storedAre(x, 0, Given.smallPacked(11));
            T.octets(x, 254, 2, 255);
        });
        T.test("trim of the first, the middle and the last slot leaves the others", () -> {
            for (int b = 0; b < 3; b++) {
                PackedSlots x = trimmed(b, 60, 11, 12, 13);
                for (int other = 0; other < 3; other++) {
                    if (other != b) {
                        T.slotIs(x, other, PACKED, 11 + other, other == 0 ? 0 : other == 1 ? 11 : 23);
                    }
                }
            }
        });
        T.test("trim of an altered block", () -> {
            PackedSlots x = Given.slots(20, 11);
            x.alter(2, 1);
            T.due("trim(0)", x.trim(0), 11);
            T.due("read(0)", x.read(0), 1);
        });
    }

    // Promise 9: "what = 0 .. 2; OUTSIDE (what)"

    private static void slot() {
        for (int what : new int[] {MIN, -1, 3, 4, MAX}) {
            T.test("slot asked for " + what, () -> {
                PackedSlots x = Given.slots(20, 11);
                T.due("of a block with a slot", x.slot(0, what), OUTSIDE);
                T.due("of a block without one", x.slot(31, what), OUTSIDE);
            });
        }
        T.test("a slot at 0 is told as 0, none as NONE", () -> {
            PackedSlots x = Given.slots(20, 11);
            T.due("slot(0, 2)", x.slot(0, 2), 0);
            T.due("slot(1, 2)", x.slot(1, 2), NONE);
        });
        T.test("a block written with zeros is SAME, not as at first", () -> {
            PackedSlots x = new PackedSlots(0);
            T.due("write(8)", x.write(8), 0);
            T.due("slot(8, 0)", x.slot(8, 0), SAME);
        });
        T.test("altering does not change what kind a block is", () -> {
            PackedSlots x = Given.slots(20, 11);
            x.alter(0, 255);
            T.slotIs(x, 0, PACKED, 11, 0);
        });
    }

    // Promise 10: "byte i of the store (what was in free ones stays there until something else comes); NONE"

    private static void stored() {
        for (int i : new int[] {MIN, -1, 24, 25, 4096, MAX}) {
            T.test("stored of " + i + ", which there is not", () -> T.due("stored", Given.slots(24, 11).stored(i), NONE));
        }
        T.test("stored goes by the store, not by the buffer", () -> {
            T.due("stored(256)", new PackedSlots(257).stored(256), 0);
            T.due("stored(255)", new PackedSlots(255).stored(255), NONE);
        });
        T.test("what was written stays behind a shorter slot in its place", () -> {
            PackedSlots x = Given.slots(20, 14);
            Given.smallBlock(x, 0, 11);
            T.storedAre(x, 0, Given.smallPacked(11));
            T.storedAre(x, 11, 4, 4, 255, 0);
        });
        T.test("what was written stays when a block becomes SAME", () -> {
            PackedSlots x = Given.slots(20, 11);
            x.run(0, 256, 3);
            x.write(0);
            T.storedAre(x, 0, Given.smallPacked(11));
        });
        T.test("what was written stays behind slots that were put together", () -> {
            PackedSlots x = trimmed(0, 24, 12, 11);
            x.compact();
            T.storedAre(x, 0, Given.smallPacked(11));
            T.due("stored(11) of the trimmed one", x.stored(11), 255);
            T.storedAre(x, 12, Given.smallPacked(11));
            T.due("stored(23)", x.stored(23), 0);
        });
        T.test("what a refused write would have put is not stored", () -> {
            PackedSlots x = trimmed(0, 24, 12, 11);
            T.due("write(5)", Given.smallBlock(x, 5, 14), ROOM);
            T.storedAre(x, 0, Given.smallPacked(12));
            T.storedAre(x, 12, Given.smallPacked(11));
        });
        T.test("a stored 255 is 255, not NONE", () -> T.due("stored(10)", Given.slots(11, 11).stored(10), 255));
    }

    // Promise 11: "xored with a mask's lowest eight bits: 1. OUTSIDE (i)"

    private static void alter() {
        alters("a mask of 0", 0, 0);
        alters("a mask of 255", 255, 255);
        alters("a mask of 256", 256, 0);
        alters("a mask of -1", -1, 255);
        alters("a mask of the least number", MIN, 0);
        alters("a mask of the greatest number", MAX, 255);
        alters("a mask of one bit", 128, 128);
        for (int i : new int[] {MIN, -1, 11, 12, MAX}) {
            T.test("alter of " + i + ", which there is not", () -> {
                PackedSlots x = Given.slots(11, 11);
                T.due("alter", x.alter(i, 255), OUTSIDE);
                T.storedAre(x, 0, Given.smallPacked(11));
            });
        }
        T.test("alter of a store of no bytes", () -> T.due("alter(0, 1)", new PackedSlots(0).alter(0, 1), OUTSIDE));
        T.test("alter of the last byte", () -> {
            PackedSlots x = Given.slots(11, 11);
            T.due("alter(10, 1)", x.alter(10, 1), 1);
            T.due("stored(10)", x.stored(10), 254);
        });
        T.test("alter of a free byte leaves it free", () -> {
            PackedSlots x = new PackedSlots(11);
            x.alter(5, 255);
            T.freeIs(x, 11, 11, 1);
            T.due("write(0)", Given.smallBlock(x, 0, 11), 11);
            T.storedAre(x, 0, Given.smallPacked(11));
        });
    }

    private static void alters(String name, int mask, int bits) {
        T.test("alter by " + name, () -> {
            PackedSlots x = Given.slots(20, 11);
            T.due("alter(4, " + mask + ")", x.alter(4, mask), 1);
            T.storedAre(x, 3, 0, 231 ^ bits, 0x50);
            T.due("alter(4, " + mask + ") again", x.alter(4, mask), 1);
            T.storedAre(x, 3, 0, 231, 0x50);
        });
    }

    // Promise 12: "how many bytes were moved (those of slots whose place is another one)"; slots in their order of places

    private static void compact() {
        T.test("compact of a store of no bytes", () -> T.due("compact()", new PackedSlots(0).compact(), 0));
        T.test("compact without slots", () -> T.due("compact()", new PackedSlots(100).compact(), 0));
        T.test("compact of one slot at 0", () -> compacts(Given.slots(100, 11), 0, 0));
        T.test("compact of slots that are close together", () -> compacts(Given.slots(100, 11, 12, 13), 0, 0, 11, 23));
        T.test("compact of a full store", () -> compacts(Given.slots(36, 11, 12, 13), 0, 0, 11, 23));
        T.test("compact behind a trim of the first", () -> compacts(trimmed(0, 36, 11, 12, 13), 25, NONE, 0, 12));
        T.test("compact behind a trim of the middle one", () -> compacts(trimmed(1, 36, 11, 12, 13), 13, 0, NONE, 11));
        T.test("compact behind a trim of the last", () -> compacts(trimmed(2, 36, 11, 12, 13), 0, 0, 11, NONE));
        T.test("compact of one slot onto a part of itself", () -> {
            PackedSlots x = trimmed(0, 60, 11, 24);
            compacts(x, 24, NONE, 0);
            T.storedAre(x, 0, Given.smallPacked(24));
            T.storedAre(x, 24, java.util.Arrays.copyOfRange(Given.smallPacked(24), 13, 24));
        });
        T.test("compact by one byte", () -> {
            PackedSlots x = Given.slots(60, 12, 13);
            Given.smallBlock(x, 0, 11);
            compacts(x, 13, 0, 11);
            T.storedAre(x, 11, Given.smallPacked(13));
            T.due("the byte behind it stays", x.stored(24), 255);
        });
        T.test("compact keeps the order of places, not that of blocks", () -> {
            PackedSlots x = Given.slots(60, 11, 12, 13);
            x.trim(0);
            x.trim(1);
            Given.smallBlock(x, 30, 11);
            Given.smallBlock(x, 0, 12);
            x.trim(30);
            T.due("compact()", x.compact(), 25);
            T.slotIs(x, 0, PACKED, 12, 0);
            T.slotIs(x, 2, PACKED, 13, 12);
        });
        T.test("compact leaves the buffer", () -> {
            PackedSlots x = trimmed(0, 60, 11, 12);
            x.compact();
            T.octets(x, 0, 1, 2, 2);
        });
        T.test("compact of raw slots", () -> {
            PackedSlots x = rawBlocks(4096, 3);
            x.trim(0);
            T.due("compact()", x.compact(), 512);
            T.slotIs(x, 1, RAW, 256, 0);
            T.slotIs(x, 2, RAW, 256, 256);
            T.storedAre(x, 254, 254, 255, 0, 1);
            T.due("what was there stays", x.stored(767), 255);
        });
    }

    private static void compacts(PackedSlots x, int moved, int... places) {
        T.due("compact()", x.compact(), moved);
        for (int b = 0; b < places.length; b++) {
            T.due("slot(" + b + ", 2)", x.slot(b, 2), places[b]);
        }
        T.due("compact() again", x.compact(), 0);
    }

    // Promise 13: "what = 0 .. 2; OUTSIDE for others"

    private static void free() {
        for (int what : new int[] {MIN, -1, 3, 4, MAX}) {
            T.test("free asked for " + what, () -> T.due("free", new PackedSlots(20).free(what), OUTSIDE));
        }
        T.test("free of a store of no bytes", () -> T.freeIs(new PackedSlots(0), 0, 0, 0));
        T.test("free of a new store", () -> T.freeIs(new PackedSlots(4096), 4096, 4096, 1));
        T.test("free of a store of one byte", () -> T.freeIs(new PackedSlots(1), 1, 1, 1));
        T.test("free of a full store", () -> T.freeIs(Given.slots(23, 11, 12), 0, 0, 0));
        T.test("free with one byte at the end", () -> T.freeIs(Given.slots(24, 11, 12), 1, 1, 1));
        T.test("free with one byte between slots", () -> {
            PackedSlots x = Given.slots(23, 12, 11);
            Given.smallBlock(x, 0, 11);
            T.freeIs(x, 1, 1, 1);
        });
        T.test("free with a row before the first slot", () -> T.freeIs(trimmed(0, 23, 11, 12), 11, 11, 1));
        T.test("free with rows on both ends", () -> T.freeIs(trimmed(0, 30, 11, 12), 18, 11, 2));
        T.test("free with rows on both ends and between", () -> {
            PackedSlots x = trimmed(0, 60, 11, 12, 13, 11);
            x.trim(2);
            T.freeIs(x, 37, 13, 3);
        });
        T.test("free rows side by side are one", () -> {
            PackedSlots x = trimmed(0, 34, 11, 12, 11);
            x.trim(1);
            T.freeIs(x, 23, 23, 1);
        });
        T.test("the longest free row is the first", () -> T.freeIs(trimmed(0, 40, 20, 12), 28, 20, 2));
        T.test("the longest free row is the last", () -> T.freeIs(trimmed(0, 60, 20, 12), 48, 28, 2));
        T.test("a SAME block takes nothing", () -> {
            PackedSlots x = new PackedSlots(20);
            x.write(0);
            T.freeIs(x, 20, 20, 1);
        });
    }
}
