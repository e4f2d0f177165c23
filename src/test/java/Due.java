/** Counts the answers of a test and prints those that are not as due. */
final class Due {
    private final String program;
    private String test = "";
    private int tests = 0;
    private int looked = 0;
    private int wrong = 0;

    Due(String program) {
        this.program = program;
    }

    /** One test with a name of its own; a call that throws is wrong, and so is a test that looks at nothing. */
    void test(String name, Runnable body) {
        int before = looked;
        test = " (" + name + ")";
        tests++;
        try {
            body.run();
        } catch (RuntimeException e) {
            holds("no call throws: " + e, false);
        }
        if (looked == before) {
            holds("the test looks at something", false);
        }
        test = "";
    }

    void due(String call, long got, long want) {
        looked++;
        if (got != want) {
            wrong++;
            System.out.println(program + test + ": " + call + " answered " + got + ", due is " + want);
        }
    }

    void holds(String what, boolean so) {
        looked++;
        if (!so) {
            wrong++;
            System.out.println(program + test + ": not so: " + what);
        }
    }

    void octets(PackedSlots x, int from, int... due) {
        for (int k = 0; k < due.length; k++) {
            due("octet(" + (from + k) + ")", x.octet(from + k), due[k]);
        }
    }

    /** Each byte from one on up to an end is the same one. */
    void octetsAll(PackedSlots x, int from, int end, int due) {
        for (int i = from; i < end; i++) {
            due("octet(" + i + ")", x.octet(i), due);
        }
    }

    void storedAre(PackedSlots x, int from, int... due) {
        for (int k = 0; k < due.length; k++) {
            due("stored(" + (from + k) + ")", x.stored(from + k), due[k]);
        }
    }

    void slotIs(PackedSlots x, int block, int kind, int size, int place) {
        due("slot(" + block + ", 0)", x.slot(block, 0), kind);
        due("slot(" + block + ", 1)", x.slot(block, 1), size);
        due("slot(" + block + ", 2)", x.slot(block, 2), place);
    }

    void freeIs(PackedSlots x, int all, int longest, int rows) {
        due("free(0)", x.free(0), all);
        due("free(1)", x.free(1), longest);
        due("free(2)", x.free(2), rows);
    }

    boolean isWrong() {
        return wrong > 0;
    }

    void end() {
        System.out.println(program + ": " + tests + " tests, " + looked + " looked at, " + wrong + " wrong");
        if (wrong > 0 || looked == 0) {
            System.exit(1);
        }
    }
}
