/**
 * Long runs of calls on PackedSlots and on PlainModel, which must answer the same.
 * The calls come from a counted row of numbers, so every run of this test is the same.
 */
public final class ModelTest {
    private static final int CALLS_MOST = 512;
    private static final int RUNS = 1500;
    private static final int[] CAPACITIES = {0, 11, 40, 100, 256, 300, 600, 1000, 2000, 4096, 5000, -3};
    private static final int[] EDGES = {Integer.MIN_VALUE, -1, 0, 1, 3, 4, 5, 31, 32, 244, 251, 252, 253, 255, 256,
        257, 600, 4095, 4096, Integer.MAX_VALUE};
    private static final String[] NAMES = {"fill", "run", "copy", "octet", "write", "read", "trim", "slot", "stored",
        "alter", "compact", "free", "type", "decode", "place"};

    private static final Due T = new Due("ModelTest");
    private static long seed;

    private final PackedSlots x;
    private final PlainModel model;
    private final int runNumber;
    private int calls = 0;

    private ModelTest(int runNumber, int capacity) {
        this.runNumber = runNumber;
        x = new PackedSlots(capacity);
        model = new PlainModel(capacity);
    }

    public static void main(String[] args) {
        for (int r = 0; r < RUNS && !T.isWrong(); r++) {
            seed = r * 7919L + 1;
            ModelTest one = new ModelTest(r, CAPACITIES[r % CAPACITIES.length]);
            one.mixed(r % 5);
        }
        T.end();
    }

    private static int below(int bound) {
        seed = seed * 6364136223846793005L + 1442695040888963407L;
        return (int) ((seed >>> 33) % bound);
    }

    private void both(int method, int a, int b, int c) {
        if (calls >= CALLS_MOST) {
            return;
        }
        calls++;
        String call = "run " + runNumber + ", call " + calls + ": " + NAMES[method] + "(" + a + ", " + b + ", " + c + ")";
        T.due(call, program(method, a, b, c), model.call(method, a, b, c));
    }

    private int program(int method, int a, int b, int c) {
        switch (method) {
            case 0: return x.fill(a, b);
            case 1: return x.run(a, b, c);
            case 2: return x.copy(a, b, c);
            case 3: return x.octet(a);
            case 4: return x.write(a);
            case 5: return x.read(a);
            case 6: return x.trim(a);
            case 7: return x.slot(a, b);
            case 8: return x.stored(a);
            case 9: return x.alter(a, b);
            case 10: return x.compact();
            case 11: return x.free(a);
            case 12: return x.type(a, b);
            case 13: return x.decode();
            default: return x.place();
        }
    }

    private void mixed(int flavour) {
        while (calls < CALLS_MOST - 60) {
            int pick = below(10);
            if (flavour == 4 && pick < 5) {
                tape();
            } else if (pick < 4) {
                newBuffer(flavour);
                both(4, below(10), 0, 0);
            } else if (pick < 6) {
                both(5, below(10), 0, 0);
                lookAtBuffer();
            } else if (pick == 6) {
                both(6, below(10), 0, 0);
                both(11, below(3), 0, 0);
            } else if (pick == 7) {
                damage();
            } else if (pick == 8) {
                both(below(6) == 0 ? 10 : 7, below(10), below(3), 0);
            } else {
                anything();
            }
        }
        lookAtEnd();
    }

    private void newBuffer(int flavour) {
        int from = below(256);
        int n = 1 + below(256 - from);
        switch (below(flavour == 0 ? 3 : 6)) {
            case 0:
                both(1, from, n, below(3));
                break;
            case 1:
                both(2, below(257 - n), from, n);
                break;
            case 2:
                both(0, below(253), below(4) * 0x01000100 + below(4), 0);
                break;
            case 3:
                both(1, 0, 256, below(2));
                break;
            case 4:
                noise(16 * below(4) + 1);
                break;
            default:
                for (int k = 0; k < 6; k++) {
                    both(0, below(253), below(Integer.MAX_VALUE), 0);
                }
        }
    }

    private void noise(int words) {
        for (int k = 0; k < words; k++) {
            both(0, 4 * k, below(Integer.MAX_VALUE) * 2 + below(2), 0);
        }
        if (words > 40) {
            both(2, 200, below(60), 1 + below(56));
        }
    }

    private void damage() {
        int block = below(10);
        int start = model.call(7, block, 2, 0);
        int size = model.call(7, block, 1, 0);
        int at = start < 0 ? below(300) : start + below(size);
        int mask = below(2) == 0 ? 1 << below(8) : below(256);
        both(9, at, mask, 0);
        both(5, block, 0, 0);
        lookAtBuffer();
        if (below(3) > 0) {
            both(9, at, mask, 0);
        }
    }

    private void tape() {
        int sequences = below(4);
        for (int s = 0; s <= sequences; s++) {
            int literals = below(5);
            int match = below(6) == 0 ? 15 : below(15);
            both(12, literals * 16 + match, 1, 0);
            for (int k = 0; k < literals; k++) {
                both(12, below(256), 1, 0);
            }
            if (s < sequences || below(3) == 0) {
                both(12, (1 + below(5)) << 8 | (below(12) == 0 ? 1 : 0), 2, 0);
                if (match == 15) {
                    both(12, below(4) == 0 ? 220 + below(36) : below(40), 1, 0);
                }
            }
        }
        if (below(8) == 0) {
            both(12, 0xf0ff0000 | below(65536), 4, 0);
        }
        both(13, 0, 0, 0);
        both(14, 0, 0, 0);
        lookAtBuffer();
    }

    private void anything() {
        both(below(NAMES.length), edge(), edge(), edge());
    }

    private static int edge() {
        return below(2) == 0 ? below(40) : EDGES[below(EDGES.length)];
    }

    private void lookAtBuffer() {
        both(3, below(256), 0, 0);
        both(3, 255 - below(10), 0, 0);
        both(3, below(20), 0, 0);
    }

    private void lookAtEnd() {
        for (int what = 0; what < 3; what++) {
            both(11, what, 0, 0);
        }
        both(14, 0, 0, 0);
        for (int b = 0; b < 10; b++) {
            both(7, b, 0, 0);
            both(7, b, 2, 0);
        }
        for (int k = 0; k < 40; k++) {
            both(8, below(k < 20 ? 100 : 1000), 0, 0);
        }
    }
}
