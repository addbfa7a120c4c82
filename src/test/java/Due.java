/** What the tests share: they count and print the answers that are not as due. */
final class Due {
    static final String NO_INDEX = "java.lang.ArrayIndexOutOfBoundsException";
    static final String NO_ARGUMENT = "java.lang.IllegalArgumentException";

    /** A call whose answer, or exception, is looked at. */
    interface Call {
        Object make();
    }

    private int looked = 0;
    private int wrong = 0;

    void is(String what, Object got, Object want) {
        looked++;
        if (!got.equals(want)) {
            wrong++;
            System.out.println(what + " answered " + got + ", due is " + want);
        }
    }

    void isThrown(String what, String exception, Call call) {
        String got;
        try {
            got = "the answer " + call.make();
        } catch (RuntimeException e) {
            got = e.getClass().getName();
        }
        is(what, got, exception);
    }

    void end() {
        System.out.println(looked + " answers looked at, " + wrong + " not as due");
        if (wrong != 0 || looked == 0) {
            System.exit(1);
        }
    }

    /** Sends a text to be read, byte by byte, and reads it. */
    static int read(ProofChecker x, String text) {
        for (int i = 0; i < text.length(); i++) {
            if (!x.unit(text.charAt(i))) {
                throw new IllegalStateException("unit refused byte " + i);
            }
        }
        return x.read();
    }

    /** Makes a rule with these cells. */
    static int rule(ProofChecker x, int kind, int number, int... cells) {
        int rule = x.rule(kind, number);
        for (int cell : cells) {
            x.into(rule, cell);
        }
        return rule;
    }

    /** Makes THE ANSWER of cells 0, 1, .. */
    static void answer(ProofChecker x, int... symbols) {
        for (int cell = 0; cell < symbols.length; cell++) {
            x.answer(cell, symbols[cell]);
        }
    }
}
