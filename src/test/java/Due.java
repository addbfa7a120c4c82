import java.util.stream.IntStream;

/** What the tests share: they count and print the answers that are not as due. */
final class Due {
    static final String NO_INDEX = "java.lang.ArrayIndexOutOfBoundsException";
    static final String NO_ARGUMENT = "java.lang.IllegalArgumentException";

    /** A call whose answer, or exception, is looked at. */
    interface Call {
        Object make();
    }

    private int looked = 0;
    private int wrong = 0;
    private String sentence = "";
    private int lookedBefore = 0;

    /** What is looked at from here on, up to the next sentence, tests this one of the document. */
    void sentence(String words) {
        endSentence();
        sentence = words;
        lookedBefore = looked;
    }

    private void endSentence() {
        if (!sentence.isEmpty() && looked == lookedBefore) {
            wrong++;
            System.out.println("[" + sentence + "] nothing was looked at");
        }
    }

    void is(String what, Object got, Object want) {
        looked++;
        if (!got.equals(want)) {
            wrong++;
            String place = sentence.isEmpty() ? "" : "[" + sentence + "] ";
            System.out.println(place + what + " answered " + got + ", due is " + want);
        }
    }

    void isThrown(String what, String exception, Call call) {
        is(what, outcome(call), exception);
    }

    /** A call's answer, or the name of the exception that it throws. */
    static Object outcome(Call call) {
        try {
            return call.make();
        } catch (RuntimeException e) {
            return e.getClass().getName();
        }
    }

    void end() {
        endSentence();
        System.out.println(looked + " answers looked at, " + wrong + " not as due");
        if (wrong != 0 || looked == 0) {
            System.exit(1);
        }
    }

    /**
     * Numbers that are not least .. most: the nearest ones, the least and the greatest int, and some
     * of which only the low bits are within.
     */
    static int[] outside(int least, int most) {
        int low = Math.max(least, 0);
        return IntStream.of(Integer.MIN_VALUE, Integer.MIN_VALUE + 1, Integer.MIN_VALUE + low, -65536 + low,
                -256 + low, least - 2, least - 1, most + 1, most + 2, 256 + low, 65536 + low,
                Integer.MAX_VALUE - 1, Integer.MAX_VALUE).filter(n -> n < least || n > most).distinct().toArray();
    }

    /** Sends a text to be read, byte by byte, and reads it. */
    static int read(ProofChecker x, String text) {
        for (int i = 0; i < text.length(); i++) {
            if (!x.unit(text.charAt(i))) {
                throw new IllegalStateException("unit refused byte " + i);
            }
        }
        return x.read();
    }

    /** How many of the lines of a text are right; they go again. */
    static int right(ProofChecker x, String text) {
        int came = read(x, text);
        if (came < 0) {
            throw new IllegalStateException("not read: " + text);
        }
        return rightAndGone(x);
    }

    /** How many lines are right; all go. */
    static int rightAndGone(ProofChecker x) {
        int right = x.check();
        while (x.drop()) {
            continue;
        }
        return right;
    }

    /** An object with a rule that no way meets, so that each line follows from it. */
    static ProofChecker withNeverMet(int width, int height, int symbols) {
        ProofChecker x = new ProofChecker(width, height, symbols);
        x.rule(1, 99);
        return x;
    }

    /** Makes a line with the literals of a text, as "+0.1 -2.0". */
    static int line(ProofChecker x, int kind, int number, String literals) {
        int line = x.line(kind, number);
        for (String literal : literals.isEmpty() ? new String[0] : literals.split(" ")) {
            int point = literal.indexOf('.');
            x.literal(Integer.parseInt(literal.substring(1, point)),
                    Integer.parseInt(literal.substring(point + 1)), literal.charAt(0) == '+');
        }
        return line;
    }

    /** Whether a line with the literals of a text is right as the first one; it goes again. */
    static int rightAlone(ProofChecker x, int kind, int number, String literals) {
        line(x, kind, number, literals);
        return rightAndGone(x);
    }

    /** Makes a rule with these cells. */
    static int rule(ProofChecker x, int kind, int number, int... cells) {
        int rule = x.rule(kind, number);
        for (int cell : cells) {
            x.into(rule, cell);
        }
        return rule;
    }

    /** Makes THE ANSWER of cells 0, 1, .. */
    static void answer(ProofChecker x, int... symbols) {
        for (int cell = 0; cell < symbols.length; cell++) {
            x.answer(cell, symbols[cell]);
        }
    }
}
