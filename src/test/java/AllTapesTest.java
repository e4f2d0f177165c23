import java.util.Arrays;

/**
 * Every tape of up to five bytes out of those that matter to the reader, behind nothing and behind
 * beginnings that nearly fill 256 bytes, against PlainModel: the answer, the place and the buffer.
 */
public final class AllTapesTest {
    /** Halves of a token that are 0, 1, full or nearly so; offsets that are 0, right or too much; ends of numbers. */
    private static final int[] MATTER = {0x00, 0x01, 0x02, 0x0F, 0x10, 0x1F, 0x20, 0xE0, 0xF0, 0xFF};
    private static final int LONGEST = 5;

    /** A literal and a long match, 1 + 4 + 15 + 231 = 251 bytes: what is left is filled by a match of 5. */
    private static final int[] FIVE_LEFT = {0x1F, 0x41, 0x01, 0x00, 231};

    /** In the same way 254 bytes: what is left is filled by two literals. */
    private static final int[] TWO_LEFT = {0x1F, 0x41, 0x01, 0x00, 234};

    private static final int TYPE = 12, DECODE = 13, PLACE = 14, OCTET = 3;
    private static final Due T = new Due("AllTapesTest");

    private AllTapesTest() {
    }

    public static void main(String[] args) {
        for (int n = 0; n <= LONGEST && !T.isWrong(); n++) {
            all(new int[0], n);
            all(FIVE_LEFT, n);
            all(TWO_LEFT, n);
        }
        T.end();
    }

    private static void all(int[] beginning, int n) {
        int[] tape = new int[beginning.length + n];
        System.arraycopy(beginning, 0, tape, 0, beginning.length);
        int many = 1;
        for (int k = 0; k < n; k++) {
            many *= MATTER.length;
        }
        for (int number = 0; number < many && !T.isWrong(); number++) {
            int rest = number;
            for (int k = beginning.length; k < tape.length; k++) {
                tape[k] = MATTER[rest % MATTER.length];
                rest /= MATTER.length;
            }
            one(tape);
        }
    }

    private static void one(int[] tape) {
        PackedSlots x = new PackedSlots(0);
        PlainModel model = new PlainModel(0);
        x.type(0, 1);
        x.decode();
        model.call(TYPE, 0, 1, 0);
        model.call(DECODE, 0, 0, 0);
        for (int b : tape) {
            x.type(b, 1);
            model.call(TYPE, b, 1, 0);
        }
        int put = x.decode();
        due("decode()", tape, put, model.call(DECODE, 0, 0, 0));
        due("place()", tape, x.place(), model.call(PLACE, 0, 0, 0));
        for (int i = Math.max(0, put - 9); i < put + 2; i++) {
            due("octet(" + i + ")", tape, x.octet(i), model.call(OCTET, i, 0, 0));
        }
    }

    private static void due(String call, int[] tape, int got, int want) {
        if (got != want) {
            System.out.println("the tape: " + Arrays.toString(tape));
        }
        T.due(call, got, want);
    }
}
