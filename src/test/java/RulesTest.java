/** Promises 2 to 6: rules, their cells, THE ANSWER, and whether it meets them. */
public final class RulesTest {
    private static final Due due = new Due();

    public static void main(String[] args) {
        ruleNumbers();
        into();
        answer();
        without();
        unlike();
        addUp();
        rise();
        likeTheFirst();
        hangTogether();
        hangTogetherInAllWays();
        notSaid();
        fails();
        due.end();
    }

    private static void ruleNumbers() {
        ProofChecker x = new ProofChecker(2, 2, 2);
        due.is("rule(-1, 0)", x.rule(-1, 0), -1);
        due.is("rule(5, 0)", x.rule(5, 0), -1);
        due.is("rule(0, -1)", x.rule(0, -1), -1);
        due.is("rule(0, 100)", x.rule(0, 100), -1);
        due.is("rule(MIN, MAX)", x.rule(Integer.MIN_VALUE, Integer.MAX_VALUE), -1);
        for (int n = 0; n < 30; n++) {
            due.is("rule number " + n, x.rule(n % 5, n % 2 == 0 ? 0 : 99), n);
        }
        due.is("a 31st rule", x.rule(0, 0), -1);
        due.isThrown("into(30, 0)", Due.NO_INDEX, () -> x.into(30, 0));
        due.is("into(29, 0)", x.into(29, 0), true);
    }

    private static void into() {
        ProofChecker x = new ProofChecker(4, 3, 2);
        due.isThrown("into(0, 0) without rules", Due.NO_INDEX, () -> x.into(0, 0));
        x.rule(1, 3);
        x.rule(1, 3);
        due.isThrown("into(-1, 0)", Due.NO_INDEX, () -> x.into(-1, 0));
        due.isThrown("into(2, 0)", Due.NO_INDEX, () -> x.into(2, 0));
        due.isThrown("into(0, -1)", Due.NO_INDEX, () -> x.into(0, -1));
        due.isThrown("into(0, 12)", Due.NO_INDEX, () -> x.into(0, 12));
        due.isThrown("into(MAX, MIN)", Due.NO_INDEX, () -> x.into(Integer.MAX_VALUE, Integer.MIN_VALUE));
        due.is("into(0, 11)", x.into(0, 11), true);
        due.is("into(0, 11) again", x.into(0, 11), false);
        due.is("into(1, 11)", x.into(1, 11), true);
        for (int cell = 0; cell < 8; cell++) {
            due.is("into(0, " + cell + ")", x.into(0, cell), true);
        }
        due.is("a tenth cell", x.into(0, 8), false);
        due.is("a cell that the full rule has", x.into(0, 3), false);
        due.isThrown("no cell into the full rule", Due.NO_INDEX, () -> x.into(0, 12));
        due.is("the other rule is not full", x.into(1, 8), true);
    }

    private static void answer() {
        ProofChecker x = new ProofChecker(2, 1, 3);
        due.is("answer(1, 2)", x.answer(1, 2), true);
        due.is("answer(1, 2) again", x.answer(1, 2), false);
        due.is("answer(1, 0)", x.answer(1, 0), true);
        due.is("answer(1, -1)", x.answer(1, -1), true);
        due.is("answer(1, -1) again", x.answer(1, -1), false);
        due.is("answer(0, -1) at first", x.answer(0, -1), false);
        due.isThrown("answer(2, 0)", Due.NO_INDEX, () -> x.answer(2, 0));
        due.isThrown("answer(-1, 0)", Due.NO_INDEX, () -> x.answer(-1, 0));
        due.isThrown("answer(0, 3)", Due.NO_ARGUMENT, () -> x.answer(0, 3));
        due.isThrown("answer(0, -2)", Due.NO_ARGUMENT, () -> x.answer(0, -2));
        due.isThrown("answer(0, MIN)", Due.NO_ARGUMENT, () -> x.answer(0, Integer.MIN_VALUE));
        due.isThrown("answer(2, 3)", Due.NO_INDEX, () -> x.answer(2, 3));
        due.is("answer(0, 0) after what was refused", x.answer(0, 0), true);
    }

    private static void without() {
        ProofChecker x = new ProofChecker(2, 2, 2);
        due.isThrown("test(0) without rules", Due.NO_INDEX, () -> x.test(0));
        int[] kinds = {0, 1, 1, 2, 3, 3, 4};
        int[] numbers = {5, 0, 5, 5, 0, 5, 5};
        int[] dues = {1, 1, 0, 1, 1, 1, 1};
        for (int n = 0; n < kinds.length; n++) {
            x.rule(kinds[n], numbers[n]);
            due.is("a rule without cells of kind " + kinds[n] + ", " + numbers[n], x.test(n), dues[n]);
        }
        due.is("fails() with rules without cells", x.fails(), 2);
        due.isThrown("test(-1)", Due.NO_INDEX, () -> x.test(-1));
        due.isThrown("test(7)", Due.NO_INDEX, () -> x.test(7));
    }

    private static int tested(int kind, int number, int[] cells, int... symbols) {
        ProofChecker x = new ProofChecker(3, 3, 6);
        Due.rule(x, kind, number, cells);
        Due.answer(x, symbols);
        return x.test(0);
    }

    private static void unlike() {
        due.is("unlike: 0 5 3", tested(0, 0, new int[] {0, 1, 2}, 0, 5, 3), 1);
        due.is("unlike: 0 5 0", tested(0, 0, new int[] {0, 1, 2}, 0, 5, 0), 0);
        due.is("unlike: 4 4", tested(0, 9, new int[] {1, 0}, 4, 4), 0);
        due.is("unlike: a cell of no rule", tested(0, 0, new int[] {0, 2}, 1, 1, 2), 1);
        due.is("unlike: one cell", tested(0, 0, new int[] {0}, 1), 1);
    }

    private static void addUp() {
        due.is("add up: 1 2 5 to 8", tested(1, 8, new int[] {0, 1, 2}, 1, 2, 5), 1);
        due.is("add up: 1 2 5 to 7", tested(1, 7, new int[] {0, 1, 2}, 1, 2, 5), 0);
        due.is("add up: 0 0 to 0", tested(1, 0, new int[] {0, 1}, 0, 0), 1);
        due.is("add up: nine fives to 45", tested(1, 45, new int[] {0, 1, 2, 3, 4, 5, 6, 7, 8},
                5, 5, 5, 5, 5, 5, 5, 5, 5), 1);
    }

    private static void rise() {
        due.is("rise: 0 1 5", tested(2, 0, new int[] {0, 1, 2}, 0, 1, 5), 1);
        due.is("rise: 0 1 1", tested(2, 0, new int[] {0, 1, 2}, 0, 1, 1), 0);
        due.is("rise: 2 1 3", tested(2, 0, new int[] {0, 1, 2}, 2, 1, 3), 0);
        due.is("rise: in the order in which they came", tested(2, 0, new int[] {2, 0, 1}, 3, 5, 1), 1);
        due.is("rise: one cell", tested(2, 7, new int[] {0}, 0), 1);
    }

    private static void likeTheFirst() {
        due.is("like the first: 2 2 0 as 2", tested(3, 2, new int[] {0, 1, 2}, 2, 2, 0), 1);
        due.is("like the first: 2 2 2 as 2", tested(3, 2, new int[] {0, 1, 2}, 2, 2, 2), 0);
        due.is("like the first: 2 0 0 as 2", tested(3, 2, new int[] {0, 1, 2}, 2, 0, 0), 0);
        due.is("like the first: the first that came", tested(3, 2, new int[] {2, 1, 0}, 2, 0, 0), 1);
        due.is("like the first: 3 as 1", tested(3, 1, new int[] {0}, 3), 1);
        due.is("like the first: 3 as 0", tested(3, 0, new int[] {0}, 3), 0);
    }

    private static void hangTogether() {
        int[] all = {0, 1, 2, 3, 4, 5, 6, 7, 8};
        due.is("hang together: none", tested(4, 0, all, 0, 2, 0, 3, 0, 0, 0, 0, 0), 1);
        due.is("hang together: one", tested(4, 0, all, 0, 2, 0, 3, 1, 0, 0, 0, 0), 1);
        due.is("hang together: a snake", tested(4, 0, all, 1, 1, 1, 0, 0, 1, 1, 1, 1), 1);
        due.is("hang together: the long way round", tested(4, 0, all, 1, 0, 1, 1, 0, 1, 1, 1, 1), 1);
        due.is("hang together: corners", tested(4, 0, all, 1, 0, 0, 0, 1, 0, 0, 0, 0), 0);
        due.is("hang together: to the left", tested(4, 0, all, 0, 1, 0, 1, 1, 0, 0, 0, 0), 1);
        due.is("hang together: upwards", tested(4, 0, all, 1, 0, 1, 1, 1, 1, 0, 0, 0), 1);
        due.is("hang together: two halves", tested(4, 0, all, 1, 1, 1, 0, 0, 0, 1, 1, 1), 0);
        due.is("hang together: over the edge", tested(4, 0, all, 0, 0, 1, 1, 0, 0, 0, 0, 0), 0);
        due.is("hang together: other symbols do not join",
                tested(4, 0, all, 1, 2, 1, 0, 2, 0, 0, 2, 0), 0);
        due.is("hang together: a cell outside of the rule does not join",
                tested(4, 0, new int[] {0, 2}, 1, 1, 1, 0, 0, 0, 0, 0, 0), 0);
        due.is("hang together: a cell outside of the rule does not matter",
                tested(4, 0, new int[] {0, 1}, 1, 1, 0, 0, 0, 0, 0, 0, 1), 1);
    }

    /** All fillings with 0 and 1 of up to nine cells, in grids of all sizes. */
    private static void hangTogetherInAllWays() {
        for (int width = 1; width <= 4; width++) {
            for (int height = 1; height <= 4; height++) {
                int cells = Math.min(9, width * height);
                int last = width * height - 1;
                for (int filling = 0; filling < 1 << cells; filling++) {
                    ProofChecker x = new ProofChecker(width, height, 2);
                    Model model = new Model(width, height, 2);
                    x.rule(4, 0);
                    model.rule(4, 0);
                    for (int n = 0; n < cells; n++) {
                        // from the last cell back, so that larger grids leave out other cells
                        x.into(0, last - n);
                        model.into(0, last - n);
                        x.answer(last - n, filling >> n & 1);
                        model.answer(last - n, filling >> n & 1);
                    }
                    due.is("hang together: " + width + " by " + height + " filled with " + filling,
                            x.test(0), model.test(0));
                }
            }
        }
    }

    private static void notSaid() {
        ProofChecker x = new ProofChecker(3, 1, 3);
        Due.rule(x, 0, 0, 0, 1, 2);
        due.is("test: nothing said", x.test(0), -1);
        Due.answer(x, 1, 1);
        due.is("test: one cell not said, though it fails", x.test(0), -1);
        x.answer(2, 0);
        due.is("test: all said", x.test(0), 0);
        x.answer(0, 2);
        due.is("test: changed", x.test(0), 1);
        x.answer(1, -1);
        due.is("test: not said any more", x.test(0), -1);
        x.answer(1, 1);
        x.answer(0, -1);
        due.is("test: the first one is not said", x.test(0), -1);
    }

    private static void fails() {
        ProofChecker x = new ProofChecker(2, 2, 2);
        Due.rule(x, 0, 0, 0, 1);
        Due.rule(x, 0, 0, 2, 3);
        Due.rule(x, 1, 1, 0, 2);
        due.is("fails: nothing said", x.fails(), 0);
        Due.answer(x, 0, 1);
        due.is("fails: of rule 1 it can't be said", x.fails(), 1);
        Due.answer(x, 0, 1, 0, 1);
        due.is("fails: rule 2 is not met", x.fails(), 2);
        Due.answer(x, 0, 1, 1, 0);
        due.is("fails: all are met", x.fails(), -1);
        x.rule(1, 2);
        due.is("fails: a new rule", x.fails(), 3);
        ProofChecker full = new ProofChecker(2, 2, 2);
        for (int n = 0; n < 30; n++) {
            full.rule(1, 0);
        }
        due.is("fails: 30 rules that are met", full.fails(), -1);
        full.into(29, 0);
        due.is("fails: the last of 30", full.fails(), 29);
    }
}
