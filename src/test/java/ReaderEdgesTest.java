/** The edges of reading packed bytes, of the tape, decode and place (promises 14 to 16), each by a test of its own. */
public final class ReaderEdgesTest {
    private static final int MIN = Integer.MIN_VALUE;
    private static final int MAX = Integer.MAX_VALUE;
    private static final int NONE = PackedSlots.NONE;
    private static final int OUTSIDE = PackedSlots.OUTSIDE;
    private static final int ROOM = PackedSlots.ROOM;
    // One literal 5, and a match that brings it to 256 in all.
    private static final int[] WHOLE = {0x1f, 5, 1, 0, 236};
    private static final Due T = new Due("ReaderEdgesTest");

    private ReaderEdgesTest() {
    }

    public static void main(String[] args) {
        howManyLiterals();
        literalsLack();
        literalsDoNotFit();
        bytesBehindLiterals();
        offsets();
        howLongMatches();
        matchesLack();
        matchesDoNotFit();
        behindAWholeBuffer();
        whichErrorIsFirst();
        type();
        typeRefused();
        decode();
        place();
        T.end();
    }

    /** The tape reads to these bytes; the buffer's others stay; the tape is empty; place is NONE. */
    private static void reads(String name, int[] due, int[]... tape) {
        T.test(name, () -> {
            PackedSlots x = nines();
            Given.tape(x, Given.join(tape));
            T.due("decode()", x.decode(), due.length);
            T.due("place()", x.place(), NONE);
            T.due("type(0, 1)", x.type(0, 1), 1);
            T.octets(x, 0, due);
            T.octetsAll(x, due.length, 256, 99);
        });
    }

    /** The tape has an error; the buffer stays; the tape is empty; place tells where. */
    private static void errs(String name, int error, int place, int[]... tape) {
        T.test(name, () -> {
            PackedSlots x = nines();
            Given.tape(x, Given.join(tape));
            T.due("decode()", x.decode(), -error);
            T.due("place()", x.place(), place);
            T.due("type(0, 1)", x.type(0, 1), 1);
            T.octetsAll(x, 0, 256, 99);
        });
    }

    private static PackedSlots nines() {
        PackedSlots x = new PackedSlots(0);
        x.run(0, 256, 99);
        return x;
    }

    // "how many literals: t / 16, and if that is 15 all of the bytes behind it added, up to the first one that is not 255"

    private static void howManyLiterals() {
        reads("0 literals", Given.bytes(), Given.bytes(0x00));
        reads("1 literal", Given.bytes(7), Given.bytes(0x10, 7));
        reads("14 literals", Given.count(0, 14), Given.bytes(0xe0), Given.count(0, 14));
        reads("15 literals, a byte 0 added", Given.count(0, 15), Given.bytes(0xf0, 0), Given.count(0, 15));
        reads("16 literals, a byte 1 added", Given.count(0, 16), Given.bytes(0xf0, 1), Given.count(0, 16));
        reads("255 literals", Given.count(0, 255), Given.bytes(0xf0, 240), Given.count(0, 255));
        reads("256 literals, the most", Given.count(0, 256), Given.bytes(0xf0, 241), Given.count(0, 256));
        reads("a literal may be 255", Given.times(15, 255), Given.bytes(0xf0, 0), Given.times(15, 255));
        reads("without bytes behind the literals the token's match does not count", Given.bytes(7), Given.bytes(0x1f, 7));
        reads("a token of 15 alone puts out nothing", Given.bytes(), Given.bytes(0x0f));
    }

    // "1 a byte lacks that is wanted (the place is how many there are)", "nothing at all lacks a byte (1)"

    private static void literalsLack() {
        errs("nothing at all", 1, 0);
        errs("the only literal lacks", 1, 1, Given.bytes(0x10));
        errs("the second literal lacks", 1, 2, Given.bytes(0x20, 7));
        errs("all of 14 literals lack", 1, 1, Given.bytes(0xe0));
        errs("the number of literals lacks", 1, 1, Given.bytes(0xf0));
        errs("the number of literals lacks behind a 255", 1, 2, Given.bytes(0xf0, 255));
        errs("the last of 15 literals lacks", 1, 16, Given.bytes(0xf0, 0), Given.count(0, 14));
        errs("the last of 256 literals lacks", 1, 257, Given.bytes(0xf0, 241), Given.count(0, 255));
        errs("all of 256 literals lack", 1, 2, Given.bytes(0xf0, 241));
        errs("the number of literals does not end on a tape of 600", 1, 600, Given.bytes(0xf0), Given.times(599, 255));
        errs("a literal of the second sequence lacks", 1, 5, Given.bytes(0x10, 7, 1, 0, 0x10));
    }

    // "3 more than 256 bytes would be put out (the token of that sequence)"

    private static void literalsDoNotFit() {
        errs("257 literals, all there", 3, 0, Given.bytes(0xf0, 242), Given.times(257, 1));
        errs("269 literals, the most in one byte", 3, 0, Given.bytes(0xf0, 254), Given.times(269, 1));
        errs("270 literals, a byte 0 behind 255", 3, 0, Given.bytes(0xf0, 255, 0), Given.times(270, 1));
        errs("very many literals on a tape of 600", 3, 0, Given.bytes(0xf0), Given.times(598, 255), Given.bytes(0));
        errs("one literal more behind 256", 3, 5, WHOLE, Given.bytes(0x10, 7));
        errs("two literals more behind 255", 3, 5, Given.bytes(0x1f, 5, 1, 0, 235, 0x20, 7, 7));
        reads("one literal more behind 255", Given.join(Given.times(255, 5), Given.bytes(7)),
            Given.bytes(0x1f, 5, 1, 0, 235, 0x10, 7));
        errs("literals of the third sequence", 3, 8, Given.bytes(0x1f, 5, 1, 0, 232, 0x00, 1, 0, 0x10, 7));
    }

    // "if bytes are left behind these: an OFFSET, two bytes, the lower one first"

    private static void bytesBehindLiterals() {
        errs("one byte left: the offset's second byte lacks", 1, 3, Given.bytes(0x10, 7, 1));
        errs("one byte 0 left: it lacks a byte before it is a wrong offset", 1, 3, Given.bytes(0x10, 7, 0));
        errs("one byte left behind no literals", 1, 2, Given.bytes(0x00, 1));
        errs("two bytes left: the token behind the match lacks", 1, 4, Given.bytes(0x10, 7, 1, 0));
        reads("three bytes left: the last one is the token of a last sequence", Given.times(5, 7),
            Given.bytes(0x10, 7, 1, 0, 0x00));
        errs("the token behind a second match lacks", 1, 7, Given.bytes(0x10, 7, 1, 0, 0x00, 1, 0));
    }

    // "2 an offset is 0, or more than was put out (its first byte)"

    private static void offsets() {
        errs("an offset of 0", 2, 2, Given.bytes(0x10, 7, 0, 0, 0x00));
        reads("an offset of 1", Given.times(5, 7), Given.bytes(0x10, 7, 1, 0, 0x00));
        errs("an offset one more than was put out", 2, 2, Given.bytes(0x10, 7, 2, 0, 0x00));
        errs("an offset of 1 when nothing was put out", 2, 1, Given.bytes(0x00, 1, 0, 0x00));
        errs("an offset of 0 when nothing was put out", 2, 1, Given.bytes(0x00, 0, 0, 0x00));
        errs("an offset's second byte is the higher one: 256", 2, 2, Given.bytes(0x10, 7, 0, 1, 0x00));
        errs("an offset's second byte is the higher one: 257", 2, 2, Given.bytes(0x10, 7, 1, 1, 0x00));
        errs("the greatest offset", 2, 2, Given.bytes(0x10, 7, 255, 255, 0x00));
        reads("an offset of all five that were put out", Given.bytes(1, 2, 3, 4, 5, 1, 2, 3, 4),
            Given.bytes(0x50, 1, 2, 3, 4, 5, 5, 0, 0x00));
        errs("an offset of six when five were put out", 2, 6, Given.bytes(0x50, 1, 2, 3, 4, 5, 6, 0, 0x00));
        reads("what was put out counts a match of before", Given.bytes(7, 7, 7, 7, 7, 8, 7, 7, 7, 7),
            Given.bytes(0x10, 7, 1, 0, 0x10, 8, 6, 0, 0x00));
        errs("an offset of one more than that", 2, 6, Given.bytes(0x10, 7, 1, 0, 0x10, 8, 7, 0, 0x00));
        errs("an offset of 0 in a second sequence", 2, 5, Given.bytes(0x10, 7, 1, 0, 0x00, 0, 0, 0x00));
        reads("an offset of 252, all that was put out", Given.join(Given.count(0, 252), Given.count(0, 4)),
            Given.bytes(0xf0, 237), Given.count(0, 252), Given.bytes(252, 0, 0x00));
        errs("an offset of 253 then", 2, 254, Given.bytes(0xf0, 237), Given.count(0, 252), Given.bytes(253, 0, 0x00));
        errs("an offset of 256 when 255 were put out", 2, 257, Given.bytes(0xf0, 240), Given.count(0, 255), Given.bytes(0, 1));
        errs("an offset of 256 when 256 were put out is no wrong one", 3, 0,
            Given.bytes(0xf0, 241), Given.count(0, 256), Given.bytes(0, 1));
        errs("an offset of 257 when 256 were put out", 2, 258, Given.bytes(0xf0, 241), Given.count(0, 256), Given.bytes(1, 1));
    }

    // "how long the match is: 4 and t modulo 16, and if that is 15 bytes added in the same way"

    private static void howLongMatches() {
        reads("a match of 4", Given.times(5, 7), Given.bytes(0x10, 7, 1, 0, 0x00));
        reads("a match of 18", Given.times(19, 7), Given.bytes(0x1e, 7, 1, 0, 0x00));
        reads("a match of 19, a byte 0 added", Given.times(20, 7), Given.bytes(0x1f, 7, 1, 0, 0, 0x00));
        reads("a match of 20, a byte 1 added", Given.times(21, 7), Given.bytes(0x1f, 7, 1, 0, 1, 0x00));
        reads("a match of 255, the most behind one literal", Given.times(256, 5), WHOLE, Given.bytes(0x00));
        reads("a match longer than its offset", Given.bytes(1, 2, 3, 1, 2, 3, 1, 2), Given.bytes(0x31, 1, 2, 3, 3, 0, 0x00));
        reads("a match as long as its offset", Given.bytes(1, 2, 3, 4, 1, 2, 3, 4), Given.bytes(0x40, 1, 2, 3, 4, 4, 0, 0x00));
        reads("a match shorter than its offset", Given.bytes(1, 2, 3, 4, 5, 1, 2, 3, 4),
            Given.bytes(0x50, 1, 2, 3, 4, 5, 5, 0, 0x00));
    }

    private static void matchesLack() {
        errs("the match's length lacks", 1, 4, Given.bytes(0x1f, 7, 1, 0));
        errs("the match's length lacks behind a 255", 1, 5, Given.bytes(0x1f, 7, 1, 0, 255));
        errs("the match's length does not end on a tape of 600", 1, 600, Given.bytes(0x1f, 7, 1, 0), Given.times(596, 255));
        errs("the token behind a match with a byte added lacks", 1, 5, Given.bytes(0x1f, 7, 1, 0, 0));
        errs("the match's length lacks in a second sequence", 1, 7, Given.bytes(0x10, 7, 1, 0, 0x0f, 1, 0));
    }

    private static void matchesDoNotFit() {
        errs("257 by a match", 3, 0, Given.bytes(0x1f, 5, 1, 0, 237, 0x00));
        errs("a match of 274, a byte 0 behind 255", 3, 0, Given.bytes(0x1f, 5, 1, 0, 255, 0, 0x00));
        errs("a very long match on a tape of 600", 3, 0, Given.bytes(0x1f, 5, 1, 0), Given.times(595, 255), Given.bytes(0));
        reads("256 by a second match", Given.times(256, 5), Given.bytes(0x1f, 5, 1, 0, 232, 0x00, 1, 0, 0x00));
        errs("257 by a second match, the place of its token", 3, 5, Given.bytes(0x1f, 5, 1, 0, 232, 0x01, 1, 0, 0x00));
        errs("257 by literals and a match of one sequence", 3, 5, Given.bytes(0x1f, 5, 1, 0, 232, 0x10, 7, 1, 0, 0x00));
        reads("256 by literals and a match of one sequence", Given.join(Given.times(251, 5), Given.times(5, 7)),
            Given.bytes(0x1f, 5, 1, 0, 231, 0x10, 7, 1, 0, 0x00));
    }

    // Behind 256 bytes each of the errors can still be met.

    private static void behindAWholeBuffer() {
        reads("a last sequence of no literals", Given.times(256, 5), WHOLE, Given.bytes(0x00));
        reads("a last sequence of no literals, a match in its token", Given.times(256, 5), WHOLE, Given.bytes(0x0f));
        errs("the token lacks", 1, 5, WHOLE);
        errs("a literal does not fit, and lacks", 3, 5, WHOLE, Given.bytes(0x10));
        errs("the number of literals lacks before they do not fit", 1, 6, WHOLE, Given.bytes(0xf0));
        errs("the offset lacks a byte", 1, 7, WHOLE, Given.bytes(0x00, 1));
        errs("the offset is 0", 2, 6, WHOLE, Given.bytes(0x00, 0, 0));
        errs("the match's length lacks", 1, 8, WHOLE, Given.bytes(0x0f, 1, 0));
        errs("the shortest match does not fit", 3, 5, WHOLE, Given.bytes(0x00, 1, 0));
    }

    // "of several in a sequence the one that is met first"

    private static void whichErrorIsFirst() {
        errs("the number of literals lacks (1) before they do not fit (3)", 1, 2, Given.bytes(0xf0, 255));
        errs("literals do not fit (3) before they lack (1)", 3, 0, Given.bytes(0xf0, 242));
        errs("literals do not fit (3) before a wrong offset (2)", 3, 0,
            Given.bytes(0xf0, 242), Given.times(257, 1), Given.bytes(0, 0));
        errs("literals lack (1) before the match does not fit (3)", 1, 2, Given.bytes(0x2f, 7));
        errs("the offset lacks (1) before it is a wrong one (2)", 1, 3, Given.bytes(0x1f, 7, 0));
        errs("a wrong offset (2) before the match's length lacks (1)", 2, 2, Given.bytes(0x1f, 7, 0, 0));
        errs("a wrong offset (2) before the match does not fit (3)", 2, 2, Given.bytes(0x1f, 7, 2, 0, 255, 0, 0x00));
        errs("a wrong offset (2) before the token behind lacks (1)", 2, 2, Given.bytes(0x10, 7, 2, 0));
        errs("the match's length lacks (1) before it does not fit (3)", 1, 5, Given.bytes(0x1f, 7, 1, 0, 255));
        errs("the match does not fit (3) before the token behind lacks (1)", 3, 0, Given.bytes(0x1f, 7, 1, 0, 237));
        errs("an error of the first sequence before one of the second", 2, 2, Given.bytes(0x10, 7, 0, 0, 0xf0, 255, 0));
    }

    // Promise 14: "n bytes of v (the highest of its lowest n first) come behind the tape: how many it has"

    private static void type() {
        types("type 1 byte: the lowest one", 0x01020304, 1, 4);
        types("type 2 bytes: the lowest two", 0x01020304, 2, 3, 4);
        types("type 3 bytes: the lowest three", 0x01020304, 3, 2, 3, 4);
        types("type 4 bytes: all of them", 0x01020304, 4, 1, 2, 3, 4);
        types("type 4 bytes of the least number", MIN, 4, 128, 0, 0, 0);
        types("type 4 bytes of -1", -1, 4, 255, 255, 255, 255);
        types("type 1 byte of 256", 256, 1, 0);
        types("type 3 bytes of the greatest number", MAX, 3, 255, 255, 255);
        T.test("type comes behind what is on the tape", () -> {
            PackedSlots x = nines();
            T.due("type", x.type(0x6001, 2), 2);
            T.due("type", x.type(0x020304, 3), 5);
            T.due("type", x.type(5, 1), 6);
            T.due("type", x.type(6, 1), 7);
            T.due("decode()", x.decode(), 6);
            T.octets(x, 0, 1, 2, 3, 4, 5, 6, 99);
        });
        for (int n = 1; n <= 4; n++) {
            int bytes = n;
            T.test("type " + n + " up to 600, the most", () -> {
                PackedSlots x = typed(600 - bytes);
                T.due("type(0, " + bytes + ")", x.type(0, bytes), 600);
            });
        }
    }

    private static void types(String name, int v, int n, int... due) {
        T.test(name, () -> {
            PackedSlots x = nines();
            x.type(n * 16, 1);
            T.due("type(" + v + ", " + n + ")", x.type(v, n), n + 1);
            T.due("decode()", x.decode(), n);
            T.octets(x, 0, due);
            T.due("octet behind it", x.octet(n), 99);
        });
    }

    /** An object with so many bytes on the tape, all 0. */
    private static PackedSlots typed(int bytes) {
        PackedSlots x = nines();
        Given.tape(x, Given.times(bytes, 0));
        return x;
    }

    // "OUTSIDE (n is not 1 .. 4), ROOM (more than 600)"

    private static void typeRefused() {
        for (int n : new int[] {MIN, -1, 0, 5, 6, MAX}) {
            T.test("type of " + n + " bytes is refused", () -> {
                PackedSlots x = nines();
                x.type(0x1007, 2);
                T.due("type(1, " + n + ")", x.type(1, n), OUTSIDE);
                T.due("decode()", x.decode(), 1);
                T.octets(x, 0, 7, 99);
            });
            T.test("type of " + n + " bytes is OUTSIDE also when there is no room", () ->
                T.due("type(1, " + n + ")", typed(600).type(1, n), OUTSIDE));
        }
        for (int n = 1; n <= 4; n++) {
            for (int more = 1; more <= n; more++) {
                noRoom(600 - n + more, n);
            }
        }
        T.test("behind a refused call the tape takes what there is room for", () -> {
            PackedSlots x = typed(599);
            T.due("type(0, 2)", x.type(0, 2), ROOM);
            T.due("type(0, 1)", x.type(0, 1), 600);
            T.due("type(0, 1)", x.type(0, 1), ROOM);
        });
        T.test("a refused call leaves the bytes of a full tape", () -> {
            PackedSlots x = nines();
            Given.tape(x, Given.join(Given.bytes(0xf0), Given.times(599, 255)));
            T.due("type(0, 1)", x.type(0, 1), ROOM);
            T.due("decode()", x.decode(), -1);
            T.due("place()", x.place(), 600);
        });
        T.test("a full tape has room again behind decode", () -> {
            PackedSlots x = typed(600);
            T.due("decode()", x.decode(), -2);
            T.due("type(0, 4)", x.type(0, 4), 4);
        });
    }

    private static void noRoom(int on, int n) {
        T.test("type of " + n + " behind " + on + " is refused", () -> {
            PackedSlots x = typed(on);
            T.due("type(0, " + n + ")", x.type(0, n), ROOM);
            T.due("type(0, " + n + ") again", x.type(0, n), ROOM);
        });
    }

    // Promise 15: "the tape is READ into the buffer, and is empty then: how many bytes (the buffer's others stay)"

    private static void decode() {
        reads("decode of one byte leaves 255", Given.bytes(7), Given.bytes(0x10, 7));
        reads("decode of 255 bytes leaves the last", Given.times(255, 5), Given.bytes(0x1f, 5, 1, 0, 235, 0x00));
        reads("decode of no bytes leaves all", Given.bytes(), Given.bytes(0x00));
        errs("bytes put out before an error are not in the buffer", 1, 4, Given.bytes(0x10, 7, 1, 0));
        errs("256 bytes put out before an error are not in the buffer", 1, 5, WHOLE);
        T.test("a second decode reads nothing at all", () -> {
            PackedSlots x = nines();
            Given.tape(x, 0x10, 7);
            T.due("decode()", x.decode(), 1);
            T.due("decode()", x.decode(), -1);
            T.due("place()", x.place(), 0);
            T.octets(x, 0, 7, 99);
        });
        T.test("a decode behind an error reads nothing at all", () -> {
            PackedSlots x = nines();
            Given.tape(x, 0x10, 7, 0, 0);
            T.due("decode()", x.decode(), -2);
            T.due("decode()", x.decode(), -1);
            T.due("place()", x.place(), 0);
        });
        T.test("matches see what this decode put out, not what is in the buffer", () -> {
            PackedSlots x = nines();
            Given.tape(x, 0x00, 1, 0, 0x00);
            T.due("decode()", x.decode(), -2);
            Given.tape(x, 0x10, 7, 1, 0, 0x00);
            T.due("decode()", x.decode(), 5);
            Given.tape(x, 0x10, 8, 3, 0, 0x00);
            T.due("decode()", x.decode(), -2);
            T.octets(x, 0, 7, 7, 7, 7, 7, 99);
        });
        T.test("decode changes no block and no slot", () -> {
            PackedSlots x = Given.slots(100, 11);
            Given.tape(x, 0x10, 7);
            x.decode();
            T.slotIs(x, 0, 2, 11, 0);
            T.storedAre(x, 0, Given.smallPacked(11));
        });
    }

    // Promise 16: "the place of the latest ERROR that decode told; NONE when its latest reading had none, or before any"

    private static void place() {
        T.test("place before any decode", () -> T.due("place()", nines().place(), NONE));
        T.test("place of an error at 0 is 0, not NONE", () -> {
            PackedSlots x = nines();
            x.decode();
            T.due("place()", x.place(), 0);
        });
        T.test("place stays when it is asked for", () -> {
            PackedSlots x = failedAt4();
            T.due("place()", x.place(), 4);
            T.due("place()", x.place(), 4);
        });
        T.test("place of the latest error of several", () -> {
            PackedSlots x = failedAt4();
            Given.tape(x, 0x10);
            x.decode();
            T.due("place()", x.place(), 1);
        });
        T.test("place is NONE behind a decode without an error", () -> {
            PackedSlots x = failedAt4();
            Given.tape(x, 0x10, 7);
            x.decode();
            T.due("place()", x.place(), NONE);
        });
        T.test("place is NONE behind a decode to no bytes", () -> {
            PackedSlots x = failedAt4();
            Given.tape(x, 0x00);
            x.decode();
            T.due("place()", x.place(), NONE);
        });
        T.test("place stays when bytes are typed", () -> {
            PackedSlots x = failedAt4();
            x.type(0, 1);
            T.due("place()", x.place(), 4);
        });
        T.test("place stays when type is refused", () -> {
            PackedSlots x = failedAt4();
            x.type(0, 5);
            T.due("place()", x.place(), 4);
        });
        T.test("place stays when a block is read without an error", () -> {
            PackedSlots x = failedAt4();
            T.due("read(0)", x.read(0), 1);
            T.due("place()", x.place(), 4);
        });
        T.test("place stays when a block is read with an error", () -> {
            PackedSlots x = failedAt4();
            x.alter(2, 1);
            T.due("read(0)", x.read(0), -2);
            T.due("place()", x.place(), 4);
        });
        T.test("place stays NONE when a block is read with an error", () -> {
            PackedSlots x = Given.slots(100, 11);
            x.alter(2, 1);
            T.due("read(0)", x.read(0), -2);
            T.due("place()", x.place(), NONE);
        });
    }

    private static PackedSlots failedAt4() {
        PackedSlots x = Given.slots(100, 11);
        Given.tape(x, 0x10, 7, 1, 0);
        x.decode();
        return x;
    }
}
