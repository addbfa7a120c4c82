/**
 * For calls that are refused: of two objects that were made alike one gets such a call, and then all
 * that can be asked of both, and what further calls make of them, must be the same.
 */
final class Twins {
    static final int CELLS = 12;
    static final int SYMBOLS = 3;

    /** Makes an object of 4 by 3 cells and 3 symbols in some state. */
    interface Maker {
        ProofChecker make();
    }

    interface Call {
        Object make(ProofChecker x);
    }

    private final Due due;

    Twins(Due due) {
        this.due = due;
    }

    void refuse(String what, Object want, Maker maker, Call call) {
        ProofChecker one = maker.make();
        ProofChecker other = maker.make();
        due.is(what, Due.outcome(() -> call.make(one)), want);
        due.is(what + ": afterwards", new Account(one).all(), new Account(other).all());
    }

    static ProofChecker empty() {
        return new ProofChecker(4, 3, SYMBOLS);
    }

    /** Some of everything: rules (one of them full), an answer but for the last cell, lines, bytes. */
    static ProofChecker some() {
        ProofChecker x = empty();
        Due.rule(x, 2, 7, 5, 1, 2);
        Due.rule(x, 3, 2, 4, 0, 8);
        Due.rule(x, 1, 3, 0, 1, 2, 3, 4, 5, 6, 7, 8);
        sayAll(x);
        x.line(0, 0);
        x.literal(5, 0, true);
        x.line(0, 9);
        x.literal(5, 1, true);
        x.literal(2, 2, false);
        send(x, "u +3.1");
        return x;
    }

    static ProofChecker fullOfRules() {
        ProofChecker x = empty();
        for (int rule = 0; rule < 30; rule++) {
            x.rule(rule % 5, rule);
        }
        x.into(29, 3);
        x.into(29, 7);
        sayAll(x);
        return x;
    }

    /** 60 lines, the last one with 16 literals; the bytes of one more but for its semicolon. */
    static ProofChecker fullOfLines() {
        ProofChecker x = empty();
        Due.rule(x, 1, 99, 0);
        for (int line = 0; line < 60; line++) {
            x.line(line % 2, 0);
        }
        for (int n = 0; n < 16; n++) {
            x.literal(n / 2, n % 3, n % 2 == 0);
        }
        send(x, "b -0.1");
        return x;
    }

    /** 300 bytes: six lines of 50. */
    static ProofChecker fullOfBytes() {
        ProofChecker x = empty();
        x.line(1, 0);
        send(x, "r10 +0.0 -1.1 +2.2 -3.0 +4.1 -5.2 +6.0 -7.1 +10.2;".repeat(6));
        return x;
    }

    private static void sayAll(ProofChecker x) {
        for (int cell = 0; cell < CELLS - 1; cell++) {
            x.answer(cell, cell % SYMBOLS);
        }
    }

    private static void send(ProofChecker x, String text) {
        for (int i = 0; i < text.length(); i++) {
            x.unit(text.charAt(i));
        }
    }

    /** All that an object answers, first to calls that change nothing, then to others. */
    private static final class Account {
        private final ProofChecker x;
        private final StringBuilder told = new StringBuilder();

        Account(ProofChecker x) {
            this.x = x;
        }

        String all() {
            asks();
            lines(0);
            answer();
            fillings();
            whatComesNext();
            cellsOfRules();
            return told.toString();
        }

        private Object tell(String name, Due.Call call) {
            Object outcome = Due.outcome(call);
            told.append(name).append(' ').append(outcome).append("; ");
            return outcome;
        }

        private void asks() {
            tell("fails", x::fails);
            tell("check", x::check);
            tell("proves", x::proves);
            for (int cell = 0; cell < CELLS; cell++) {
                int asked = cell;
                tell("may", () -> x.may(asked));
            }
            rules();
        }

        private void rules() {
            boolean more = true;
            for (int rule = 0; more; rule++) {
                int asked = rule;
                more = !tell("test", () -> x.test(asked)).equals(Due.NO_INDEX);
            }
        }

        private void lines(int first) {
            boolean more = true;
            for (int line = first; more; line++) {
                int asked = line;
                more = !tell("kind", () -> x.tell(asked, 0)).equals(Due.NO_INDEX);
                if (more) {
                    tell("number", () -> x.tell(asked, 1));
                    int size = (Integer) tell("size", () -> x.tell(asked, 2));
                    for (int what = 3; what < 3 + size; what++) {
                        int literal = what;
                        tell("literal", () -> x.tell(asked, literal));
                    }
                }
            }
        }

        /** What sayAll said, and nothing of the last cell, is refused if it is still said. */
        private void answer() {
            for (int cell = 0; cell < CELLS; cell++) {
                int asked = cell;
                tell("answer", () -> x.answer(asked, asked == CELLS - 1 ? -1 : asked % SYMBOLS));
            }
        }

        /** Other answers show the kinds of the rules, their numbers, and their cells' order. */
        private void fillings() {
            for (int filling = 0; filling < 3; filling++) {
                for (int cell = 0; cell < CELLS; cell++) {
                    x.answer(cell, (cell * cell + cell * filling + 3 * filling / 2) % SYMBOLS);
                }
                rules();
            }
        }

        private void whatComesNext() {
            tell("unit", () -> x.unit(';'));
            int before = linesNow();
            tell("read", x::read);
            lines(before);
            tell("drop", x::drop);
            tell("line", () -> x.line(1, 1));
            tell("literal", () -> x.literal(11, 2, true));
            tell("rule", () -> x.rule(4, 4));
        }

        private int linesNow() {
            int made = x.line(0, 0);
            if (made < 0) {
                return 60;
            }
            x.drop();
            return made;
        }

        private void cellsOfRules() {
            int[] asked = {0, 1, 2, 29};
            for (int rule : asked) {
                boolean there = true;
                for (int n = 0; n < CELLS && there; n++) {
                    int cell = n;
                    there = !tell("into", () -> x.into(rule, cell)).equals(Due.NO_INDEX);
                }
            }
        }
    }
}
