/** Promises 1 to 6, and of the terms THE GRID, RULES and THE ANSWER: a test for each sentence with an edge. */
public final class EdgesOfRulesTest {
    private static final int MIN = Integer.MIN_VALUE;
    private static final int MAX = Integer.MAX_VALUE;
    private static final Due due = new Due();
    private static final Twins twins = new Twins(due);

    public static void main(String[] args) {
        widths();
        heights();
        symbols();
        nothingAtFirst();
        cellsByRows();
        nextToEachOther();

        ruleKinds();
        ruleNumbers();
        rulesAtMost();

        cellTwice();
        cellsAtMost();
        noSuchRuleOrCell();

        answerAgain();
        answerOfNothing();
        answerOfNoCell();
        answerOfNoSymbol();

        testOfMetOrNot();
        testOfUnsaid();
        testOfNoRule();
        failsFirst();
        failsOfUnsaid();
        failsNot();

        withoutCells();
        allUnlike();
        addUp();
        greaterThanBefore();
        justAsMany();
        hangTogether();
        due.end();
    }

    // Promise 1

    /** What was wanted, and what it counts as where there may be 1 .. 4. */
    private static int[][] sides() {
        return new int[][] {{MIN, 1}, {MIN + 3, 1}, {-256, 1}, {-2, 1}, {-1, 1}, {0, 1}, {1, 1}, {2, 2}, {3, 3},
            {4, 4}, {5, 4}, {6, 4}, {256, 4}, {257, 4}, {65538, 4}, {MAX - 1, 4}, {MAX, 4}};
    }

    private static void widths() {
        due.sentence("Promise 1: Width 1 .. 4 (less counts as the least, more as the most)");
        for (int[] side : sides()) {
            ProofChecker x = new ProofChecker(side[0], 3, 2);
            hasCells("width " + side[0], x, 3 * side[1]);
            isNext("width " + side[0] + ", the cell below", x, 0, side[1], 1);
            for (int other = 2; other <= 4; other++) {
                if (other != side[1] && other < 3 * side[1]) {
                    isNext("width " + side[0] + ", not below but for width " + other, x, 0, other, 0);
                }
            }
        }
    }

    private static void heights() {
        due.sentence("Promise 1: height 1 .. 4 (less counts as the least, more as the most)");
        for (int[] side : sides()) {
            ProofChecker x = new ProofChecker(3, side[0], 2);
            hasCells("height " + side[0], x, 3 * side[1]);
            if (side[1] > 1) {
                isNext("height " + side[0] + ", the cell below", x, 0, 3, 1);
                isNext("height " + side[0] + ", not below", x, 0, 2, 0);
            }
        }
    }

    private static void symbols() {
        due.sentence("Promise 1: symbols 1 .. 6 (less counts as the least, more as the most)");
        int[][] wanted = {{MIN, 1}, {MIN + 3, 1}, {-256, 1}, {-1, 1}, {0, 1}, {1, 1}, {2, 2}, {3, 3}, {4, 4}, {5, 5},
            {6, 6}, {7, 6}, {8, 6}, {256, 6}, {257, 6}, {65538, 6}, {MAX - 1, 6}, {MAX, 6}};
        for (int[] one : wanted) {
            ProofChecker x = new ProofChecker(1, 1, one[0]);
            String name = "symbols " + one[0];
            due.is(name + ": the last", x.answer(0, one[1] - 1), true);
            due.isThrown(name + ": one more", Due.NO_ARGUMENT, () -> x.answer(0, one[1]));
            due.is(name + ": what a cell may be", x.may(0), (1 << one[1]) - 1);
            x.line(1, 0);
            due.is(name + ": literal of the last", x.literal(0, one[1] - 1, true), true);
            due.isThrown(name + ": literal of one more", Due.NO_ARGUMENT, () -> x.literal(0, one[1], true));
            due.is(name + ": read the last", Due.read(x, "u +0." + (one[1] - 1) + ";"), 1);
            due.is(name + ": read one more", Due.read(x, "u +0." + one[1] + ";"), -6);
        }
    }

    private static void hasCells(String name, ProofChecker x, int cells) {
        for (int cell = 0; cell < cells; cell++) {
            due.is(name + ": cell " + cell, x.answer(cell, 0), true);
        }
        due.isThrown(name + ": cell " + cells, Due.NO_INDEX, () -> x.answer(cells, 0));
    }

    /** Whether two cells with symbol 1 hang together by themselves; they get symbol 0 again. */
    private static void isNext(String what, ProofChecker x, int a, int b, int want) {
        int rule = Due.rule(x, 4, 0, a, b);
        x.answer(a, 1);
        x.answer(b, 1);
        due.is(what, x.test(rule), want);
        x.answer(a, 0);
        x.answer(b, 0);
    }

    private static void nothingAtFirst() {
        due.sentence("Promise 1: A new object (has no rule, no line, nothing to read, and its answer says nothing)");
        ProofChecker x = new ProofChecker(4, 4, 6);
        due.isThrown("test(0)", Due.NO_INDEX, () -> x.test(0));
        due.isThrown("into(0, 0)", Due.NO_INDEX, () -> x.into(0, 0));
        due.isThrown("tell(0, 0)", Due.NO_INDEX, () -> x.tell(0, 0));
        due.is("drop()", x.drop(), false);
        due.is("read()", x.read(), 0);
        for (int cell = 0; cell < 16; cell++) {
            due.is("answer(" + cell + ", -1)", x.answer(cell, -1), false);
            due.is("may(" + cell + ")", x.may(cell), 63);
        }
        due.is("rule(0, 0)", x.rule(0, 0), 0);
        due.is("line(0, 0)", x.line(0, 0), 0);
    }

    private static void cellsByRows() {
        due.sentence("Terms: (x, y) is cell W y + x");
        ProofChecker x = new ProofChecker(4, 3, 2);
        Due.answer(x, 0, 0, 0, 0, 0, 0, 0, 0, 0, 0, 0, 0);
        isNext("(3, 1) and (3, 2)", x, 7, 11, 1);
        isNext("(0, 1) and (1, 1)", x, 4, 5, 1);
        isNext("(0, 0) and (3, 0)", x, 0, 3, 0);
    }

    private static void nextToEachOther() {
        due.sentence("Terms: NEXT to it are those above, to the right, below, to the left (none round an edge)");
        for (int size = 0; size < 16; size++) {
            int width = 1 + size % 4;
            int height = 1 + size / 4;
            for (int a = 0; a < width * height; a++) {
                for (int b = 0; b < width * height; b++) {
                    int away = Math.abs(a % width - b % width) + Math.abs(a / width - b / width);
                    if (a != b) {
                        isNext(width + " by " + height + ": " + a + " and " + b,
                                new ProofChecker(width, height, 2), a, b, away == 1 ? 1 : 0);
                    }
                }
            }
        }
    }

    // Promise 2

    private static void ruleKinds() {
        due.sentence("Promise 2: -1 when kind is not 0 .. 4");
        ProofChecker x = new ProofChecker(2, 2, 2);
        for (int kind = 0; kind <= 4; kind++) {
            due.is("rule(" + kind + ", 0)", x.rule(kind, 0), kind);
        }
        for (int kind : Due.outside(0, 4)) {
            twins.refuse("rule(" + kind + ", 0) as the first", -1, Twins::empty, y -> y.rule(kind, 0));
            twins.refuse("rule(" + kind + ", 99)", -1, Twins::some, y -> y.rule(kind, 99));
            twins.refuse("rule(" + kind + ", 0) as a 31st", -1, Twins::fullOfRules, y -> y.rule(kind, 0));
            twins.refuse("rule(" + kind + ", 100)", -1, Twins::some, y -> y.rule(kind, 100));
        }
    }

    private static void ruleNumbers() {
        due.sentence("Promise 2: -1 when number is not 0 .. 99");
        for (int kind = 0; kind <= 4; kind++) {
            ProofChecker x = new ProofChecker(2, 2, 2);
            due.is("rule(" + kind + ", 0)", x.rule(kind, 0), 0);
            due.is("rule(" + kind + ", 1)", x.rule(kind, 1), 1);
            due.is("rule(" + kind + ", 98)", x.rule(kind, 98), 2);
            due.is("rule(" + kind + ", 99)", x.rule(kind, 99), 3);
            int taken = kind;
            for (int number : Due.outside(0, 99)) {
                String name = "rule(" + kind + ", " + number + ")";
                twins.refuse(name, -1, Twins::some, y -> y.rule(taken, number));
                due.is(name, x.rule(kind, number), -1);
            }
            due.is("the next rule", x.rule(kind, 50), 4);
        }
    }

    private static void rulesAtMost() {
        due.sentence("Promise 2: -1 when there are 30; Terms: numbered from 0 on, at most 30");
        ProofChecker x = new ProofChecker(2, 2, 2);
        for (int rule = 0; rule < 30; rule++) {
            due.is("rule " + rule, x.rule(1, rule % 2), rule);
        }
        due.is("a 31st", x.rule(1, 0), -1);
        due.is("a 32nd", x.rule(1, 0), -1);
        for (int rule = 0; rule < 30; rule++) {
            due.is("test(" + rule + ")", x.test(rule), 1 - rule % 2);
        }
        due.isThrown("test(30)", Due.NO_INDEX, () -> x.test(30));
        for (int kind = 0; kind <= 4; kind++) {
            int taken = kind;
            twins.refuse("a 31st of kind " + kind, -1, Twins::fullOfRules, y -> y.rule(taken, 0));
        }
    }

    // Promise 3

    private static void cellTwice() {
        due.sentence("Promise 3: false when it has it; Terms: each once");
        ProofChecker x = new ProofChecker(4, 4, 2);
        x.rule(1, 0);
        x.rule(1, 0);
        int[] cells = {15, 0, 7};
        for (int cell : cells) {
            due.is("into(0, " + cell + ")", x.into(0, cell), true);
            for (int again : cells) {
                boolean has = again == 15 || again == cell || (again == 0 && cell == 7);
                if (has) {
                    due.is("into(0, " + again + ") again", x.into(0, again), false);
                }
            }
        }
        due.is("into(1, 15): the other rule has it not", x.into(1, 15), true);
        twins.refuse("into(0, 5): the first of its cells", false, Twins::some, y -> y.into(0, 5));
        twins.refuse("into(0, 2): the last of its cells", false, Twins::some, y -> y.into(0, 2));
        twins.refuse("into(29, 7): of the last rule", false, Twins::fullOfRules, y -> y.into(29, 7));
    }

    private static void cellsAtMost() {
        due.sentence("Promise 3: false when it has 9; Terms: at most 9 cells each");
        for (int rule : new int[] {0, 1, 29}) {
            ProofChecker x = new ProofChecker(4, 4, 2);
            for (int n = 0; n < 30; n++) {
                x.rule(1, 1);
            }
            for (int n = 0; n < 9; n++) {
                due.is("cell " + (n + 1) + " of rule " + rule, x.into(rule, 15 - n), true);
            }
            for (int cell = 0; cell < 16; cell++) {
                due.is("into(" + rule + ", " + cell + "), it has 9", x.into(rule, cell), false);
            }
            for (int other = 0; other < 30; other++) {
                due.is("the other rules have none", x.into(other, 0), other != rule);
            }
        }
        twins.refuse("a tenth cell", false, Twins::some, y -> y.into(2, 9));
        twins.refuse("a tenth cell, the last", false, Twins::some, y -> y.into(2, 11));
        twins.refuse("a cell that the full rule has", false, Twins::some, y -> y.into(2, 8));
    }

    private static void noSuchRuleOrCell() {
        due.sentence("Promise 3: ArrayIndexOutOfBoundsException: there is no such rule, or cell");
        for (int rule : Due.outside(0, 2)) {
            twins.refuse("into(" + rule + ", 0)", Due.NO_INDEX, Twins::some, y -> y.into(rule, 0));
            twins.refuse("into(" + rule + ", 12)", Due.NO_INDEX, Twins::some, y -> y.into(rule, 12));
        }
        for (int rule : Due.outside(0, 29)) {
            twins.refuse("into(" + rule + ", 0)", Due.NO_INDEX, Twins::fullOfRules, y -> y.into(rule, 0));
        }
        for (int rule : new int[] {MIN, -1, 0, 1, MAX}) {
            twins.refuse("into(" + rule + ", 0), no rule", Due.NO_INDEX, Twins::empty, y -> y.into(rule, 0));
        }
        for (int cell : Due.outside(0, 11)) {
            twins.refuse("into(0, " + cell + ")", Due.NO_INDEX, Twins::some, y -> y.into(0, cell));
            twins.refuse("into(2, " + cell + "), it has 9", Due.NO_INDEX, Twins::some, y -> y.into(2, cell));
        }
        ProofChecker x = Twins.fullOfRules();
        due.is("into(0, 0)", x.into(0, 0), true);
        due.is("into(0, 11)", x.into(0, 11), true);
        due.is("into(29, 0)", x.into(29, 0), true);
        due.is("into(29, 11)", x.into(29, 11), true);
    }

    // Promise 4

    private static void answerAgain() {
        due.sentence("Promise 4: true; false when it says so already");
        ProofChecker x = new ProofChecker(4, 4, 6);
        for (int cell = 0; cell < 16; cell += 15) {
            for (int symbol = 0; symbol < 6; symbol++) {
                due.is("answer(" + cell + ", " + symbol + ")", x.answer(cell, symbol), true);
                due.is("answer(" + cell + ", " + symbol + ") again", x.answer(cell, symbol), false);
            }
            due.is("answer(" + cell + ", 0) once more", x.answer(cell, 0), true);
        }
        twins.refuse("answer(0, 0)", false, Twins::some, y -> y.answer(0, 0));
        twins.refuse("answer(10, 1)", false, Twins::some, y -> y.answer(10, 1));
    }

    private static void answerOfNothing() {
        due.sentence("Promise 4: -1: it says nothing of it any more");
        ProofChecker x = new ProofChecker(2, 1, 2);
        Due.rule(x, 0, 0, 0, 1);
        due.is("answer(1, -1) at first", x.answer(1, -1), false);
        Due.answer(x, 0, 1);
        due.is("all is said", x.test(0), 1);
        due.is("answer(1, -1)", x.answer(1, -1), true);
        due.is("it is not said any more", x.test(0), -1);
        due.is("answer(1, -1) again", x.answer(1, -1), false);
        due.is("answer(1, 1), which it had said before", x.answer(1, 1), true);
        due.is("all is said again", x.test(0), 1);
        twins.refuse("answer(11, -1)", false, Twins::some, y -> y.answer(11, -1));
        twins.refuse("answer(0, -1) at first", false, Twins::empty, y -> y.answer(0, -1));
    }

    private static void answerOfNoCell() {
        due.sentence("Promise 4: ArrayIndexOutOfBoundsException: there is no such cell");
        for (int cell : Due.outside(0, 11)) {
            for (int symbol : new int[] {MIN, -2, -1, 0, 2, 3, MAX}) {
                twins.refuse("answer(" + cell + ", " + symbol + ")", Due.NO_INDEX, Twins::some,
                        y -> y.answer(cell, symbol));
            }
        }
        for (int[] size : new int[][] {{1, 1}, {1, 4}, {4, 1}, {3, 3}, {4, 4}}) {
            ProofChecker x = new ProofChecker(size[0], size[1], 2);
            int cells = size[0] * size[1];
            due.is("the last of " + cells, x.answer(cells - 1, 1), true);
            due.isThrown("behind the last of " + cells, Due.NO_INDEX, () -> x.answer(cells, 1));
            due.isThrown("-1 of " + cells, Due.NO_INDEX, () -> x.answer(-1, 1));
        }
    }

    private static void answerOfNoSymbol() {
        due.sentence("Promise 4: IllegalArgumentException: it is no symbol, nor -1");
        for (int symbol : Due.outside(-1, 2)) {
            twins.refuse("answer(0, " + symbol + ")", Due.NO_ARGUMENT, Twins::some, y -> y.answer(0, symbol));
            twins.refuse("answer(11, " + symbol + ")", Due.NO_ARGUMENT, Twins::some, y -> y.answer(11, symbol));
        }
        for (int symbols = 1; symbols <= 6; symbols++) {
            ProofChecker x = new ProofChecker(1, 1, symbols);
            due.is("the last of " + symbols, x.answer(0, symbols - 1), true);
            due.is("-1", x.answer(0, -1), true);
            for (int symbol : Due.outside(-1, symbols - 1)) {
                due.isThrown(symbol + " of " + symbols, Due.NO_ARGUMENT, () -> x.answer(0, symbol));
            }
        }
    }

    // Promises 5 and 6

    private static void testOfMetOrNot() {
        due.sentence("Promise 5: Whether THE ANSWER meets a rule: 1, 0");
        ProofChecker x = new ProofChecker(2, 2, 2);
        Due.rule(x, 0, 0, 0, 3);
        Due.answer(x, 1, 0, 0, 1);
        due.is("not met", x.test(0), 0);
        x.answer(3, 0);
        due.is("met", x.test(0), 1);
    }

    private static void testOfUnsaid() {
        due.sentence("Promise 5: -1 when it says nothing of one of its cells");
        for (int kind = 0; kind <= 4; kind++) {
            for (int unsaid = 0; unsaid < 9; unsaid++) {
                ProofChecker x = new ProofChecker(4, 4, 6);
                Due.rule(x, kind, 9, 0, 1, 2, 3, 4, 5, 6, 7, 8);
                for (int cell = 0; cell < 9; cell++) {
                    x.answer(cell, 1);
                }
                due.is("kind " + kind + ", all but cells of no rule", x.test(0), kind == 0 || kind == 2 ? 0 : 1);
                x.answer(unsaid, -1);
                due.is("kind " + kind + ", all but " + unsaid, x.test(0), -1);
            }
            ProofChecker x = new ProofChecker(1, 1, 1);
            Due.rule(x, kind, 0, 0);
            due.is("kind " + kind + ", its only cell", x.test(0), -1);
        }
    }

    private static void testOfNoRule() {
        due.sentence("Promise 5: ArrayIndexOutOfBoundsException: there is no such rule");
        for (int rule : Due.outside(0, 2)) {
            twins.refuse("test(" + rule + ")", Due.NO_INDEX, Twins::some, y -> y.test(rule));
        }
        for (int rule : Due.outside(0, 29)) {
            twins.refuse("test(" + rule + ") of 30", Due.NO_INDEX, Twins::fullOfRules, y -> y.test(rule));
        }
        for (int rule : new int[] {MIN, -1, 0, 1, 29, 30, MAX}) {
            twins.refuse("test(" + rule + ") of none", Due.NO_INDEX, Twins::empty, y -> y.test(rule));
        }
        ProofChecker x = Twins.fullOfRules();
        due.is("test(0) of 30", x.test(0), 1);
        due.is("test(29) of 30", x.test(29), 1);
    }

    private static void failsFirst() {
        due.sentence("Promise 6: The first rule that THE ANSWER does not meet");
        for (int first = 0; first < 30; first++) {
            ProofChecker x = new ProofChecker(1, 1, 1);
            for (int rule = 0; rule < 30; rule++) {
                // those behind the first one are met and not met by turns
                x.rule(1, rule < first ? 0 : (rule - first + 1) % 2);
            }
            due.is("the first is " + first, x.fails(), first);
        }
    }

    private static void failsOfUnsaid() {
        due.sentence("Promise 6: (or of which it can't be said)");
        ProofChecker x = new ProofChecker(2, 1, 2);
        x.rule(0, 0);
        Due.rule(x, 4, 0, 1);
        Due.rule(x, 1, 1, 0);
        due.is("nothing is said", x.fails(), 1);
        x.answer(0, 0);
        due.is("rule 2 is not met, of rule 1 it can't be said", x.fails(), 1);
        x.answer(1, 0);
        due.is("rule 2 is not met", x.fails(), 2);
        x.answer(0, -1);
        due.is("of rule 2 it can't be said", x.fails(), 2);
    }

    private static void failsNot() {
        due.sentence("Promise 6: -1 when it meets all");
        ProofChecker x = new ProofChecker(2, 1, 2);
        due.is("no rules", x.fails(), -1);
        for (int rule = 0; rule < 30; rule++) {
            x.rule(rule % 5, 0);
            due.is("rules without cells", x.fails(), -1);
        }
        x.into(29, 1);
        due.is("the last one has a cell", x.fails(), 29);
        x.answer(1, 1);
        due.is("it is met, though THE ANSWER is not whole", x.fails(), -1);
    }

    // Terms: when a rule is met

    private static int tested(int kind, int number, int... symbols) {
        ProofChecker x = new ProofChecker(3, 3, 6);
        x.rule(kind, number);
        for (int cell = 0; cell < symbols.length; cell++) {
            x.into(0, cell);
            x.answer(cell, symbols[cell]);
        }
        return x.test(0);
    }

    private static void withoutCells() {
        due.sentence("Terms: A rule without cells is met, but of kind 1 only when its number is 0 (of kind 3 always)");
        for (int number = 0; number <= 99; number++) {
            for (int kind = 0; kind <= 4; kind++) {
                int want = kind == 1 && number != 0 ? 0 : 1;
                due.is("kind " + kind + ", number " + number, tested(kind, number), want);
                ProofChecker x = new ProofChecker(1, 1, 1);
                x.rule(kind, number);
                due.is("by rule, kind " + kind + ", number " + number, Due.right(x, "r0;"), 1 - want);
                due.is("fails, kind " + kind + ", number " + number, x.fails(), want == 1 ? -1 : 0);
            }
        }
    }

    private static void allUnlike() {
        due.sentence("Terms: kind 0 when all are unlike");
        due.is("one cell", tested(0, 0, 3), 1);
        due.is("as many cells as symbols", tested(0, 0, 5, 0, 4, 1, 3, 2), 1);
        for (int symbol = 0; symbol < 6; symbol++) {
            due.is("one more cell, with " + symbol, tested(0, 0, 5, 0, 4, 1, 3, 2, symbol), 0);
        }
        due.is("the first two alike", tested(0, 0, 5, 5, 1), 0);
        due.is("the last two alike", tested(0, 0, 1, 0, 0), 0);
        due.is("the first and the last alike", tested(0, 0, 0, 1, 2, 3, 4, 0), 0);
        due.is("its number says nothing", tested(0, 99, 1, 2), 1);
    }

    private static void addUp() {
        due.sentence("Terms: kind 1 when the symbols add up to its number");
        for (int number = 0; number <= 99; number++) {
            ProofChecker x = new ProofChecker(3, 3, 6);
            Due.rule(x, 1, number, 0, 1, 2, 3, 4, 5, 6, 7, 8);
            Due.answer(x, 0, 0, 0, 0, 0, 0, 0, 0, 0);
            due.is("number " + number + ", sum 0", x.test(0), number == 0 ? 1 : 0);
            for (int sum = 1; sum <= 45; sum++) {
                x.answer((sum - 1) / 5, 1 + (sum - 1) % 5);
                due.is("number " + number + ", sum " + sum, x.test(0), sum == number ? 1 : 0);
            }
        }
    }

    private static void greaterThanBefore() {
        due.sentence("Terms: kind 2 when each is greater than the one before");
        due.is("one cell", tested(2, 0, 0), 1);
        due.is("one more", tested(2, 0, 0, 1), 1);
        due.is("equal", tested(2, 0, 1, 1), 0);
        due.is("one less", tested(2, 0, 1, 0), 0);
        due.is("all symbols", tested(2, 0, 0, 1, 2, 3, 4, 5), 1);
        due.is("all symbols, the last one twice", tested(2, 0, 0, 1, 2, 3, 4, 5, 5), 0);
        due.is("the first two wrong", tested(2, 0, 1, 0, 2), 0);
        due.is("greater than the first, not than the one before", tested(2, 0, 0, 2, 1), 0);
        ProofChecker x = new ProofChecker(3, 1, 3);
        Due.rule(x, 2, 0, 2, 0, 1);
        Due.answer(x, 1, 2, 0);
        due.is("in the order in which they came", x.test(0), 1);
        Due.answer(x, 0, 1, 2);
        due.is("not in the order of the cells", x.test(0), 0);
    }

    private static void justAsMany() {
        due.sentence("Terms: kind 3 when just as many cells as its number have the symbol of the first one");
        for (int alike = 1; alike <= 9; alike++) {
            for (int number = 0; number <= 99; number++) {
                int[] symbols = new int[9];
                for (int n = 0; n < 9; n++) {
                    symbols[n] = n < alike ? 4 : n % 4;
                }
                int want = number == alike ? 1 : 0;
                due.is("number " + number + ", alike " + alike, tested(3, number, symbols), want);
            }
        }
        due.is("itself counted", tested(3, 1, 2), 1);
        due.is("the last one too", tested(3, 2, 0, 1, 0), 1);
        due.is("not that of the second one", tested(3, 2, 0, 1, 1), 0);
        ProofChecker x = new ProofChecker(3, 1, 3);
        Due.rule(x, 3, 2, 2, 0, 1);
        Due.answer(x, 0, 1, 1);
        due.is("the first one is the one that came first", x.test(0), 1);
        Due.answer(x, 0, 0, 1);
        due.is("not the least one", x.test(0), 0);
    }

    private static void hangTogether() {
        due.sentence("Terms: kind 4 when all its cells that have symbol 1 hang together (or none has it, or one)");
        due.is("none", tested(4, 0, 0, 2, 3, 0, 5, 0, 0, 2, 0), 1);
        for (int cell = 0; cell < 9; cell++) {
            int[] one = new int[9];
            one[cell] = 1;
            due.is("one", tested(4, 0, one), 1);
        }
        due.is("all", tested(4, 0, 1, 1, 1, 1, 1, 1, 1, 1, 1), 1);
        due.is("two, next to each other", tested(4, 0, 1, 1, 0, 0, 0, 0, 0, 0, 0), 1);
        due.is("two, not next to each other", tested(4, 0, 1, 0, 1, 0, 0, 0, 0, 0, 0), 0);
        due.is("two, corner to corner", tested(4, 0, 1, 0, 0, 0, 1, 0, 0, 0, 0), 0);
        due.is("two, round the edge", tested(4, 0, 0, 0, 1, 1, 0, 0, 0, 0, 0), 0);
        due.is("a chain as long as can be", tested(4, 0, 1, 1, 1, 0, 0, 1, 1, 1, 1), 1);
        due.is("the same from below", tested(4, 0, 1, 1, 1, 1, 0, 0, 1, 1, 1), 1);
        due.is("down, and up again", tested(4, 0, 1, 0, 1, 1, 0, 1, 1, 1, 1), 1);
        due.is("down, and to the left", tested(4, 0, 0, 1, 0, 1, 1, 0, 0, 0, 0), 1);
        due.is("the chain cut", tested(4, 0, 1, 1, 1, 0, 0, 0, 1, 1, 1), 0);
        due.is("another symbol joins nothing", tested(4, 0, 1, 2, 1, 0, 2, 0, 0, 2, 0), 0);
        due.is("others than symbol 1 need not hang together", tested(4, 0, 2, 0, 2, 0, 1, 0, 2, 0, 2), 1);
        ProofChecker x = new ProofChecker(3, 1, 2);
        Due.rule(x, 4, 0, 0, 2);
        Due.rule(x, 4, 0, 2, 1, 0);
        Due.answer(x, 1, 1, 1);
        due.is("not by a cell that is not of the rule", x.test(0), 0);
        due.is("by a cell of the rule", x.test(1), 1);
        ProofChecker z = new ProofChecker(3, 3, 2);
        Due.rule(z, 4, 0, 5, 8);
        Due.answer(z, 1, 0, 1, 0, 0, 1, 1, 0, 1);
        due.is("cells that are not of the rule need not", z.test(0), 1);
        ProofChecker y = new ProofChecker(1, 1, 1);
        Due.rule(y, 4, 0, 0);
        y.answer(0, 0);
        due.is("where there is no symbol 1", y.test(0), 1);
    }
}
