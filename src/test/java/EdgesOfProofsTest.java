/** Promises 10, 11 and 13, and of the terms when a line is RIGHT: a test for each sentence with an edge. */
public final class EdgesOfProofsTest {
    private static final int MIN = Integer.MIN_VALUE;
    private static final int MAX = Integer.MAX_VALUE;
    private static final Due due = new Due();
    private static final Twins twins = new Twins(due);

    public static void main(String[] args) {
        byNoRule();
        byRuleOfManyCells();
        byTheFirstWayOrTheLast();
        byRuleThatNoWayMeets();
        byRuleOfOtherCells();

        unitsTurnedRound();
        unitsOfACellThatMayBeNothing();
        unitsOfEmptyLines();
        unitsOfOneOpenLiteral();
        unitsOfOneSymbol();
        unitsFromTheFirstOnAgain();
        unitsOfLinesAhead();

        splitOfNoCell();
        splitWhereUnitsDo();
        splitOfEachSymbol();
        splitOfWhatItMayBeThen();

        barredWhole();
        barredMeetsAll();
        barredOneForEachCell();
        barredInAnyOrder();

        checkFromTheFirst();
        checkOfSixty();
        checkAsAllIsNow();
        provesNot();
        provesNoAnswer();
        provesNoneButTheAnswer();

        mayOfNothing();
        mayOfLinesTakenForRight();
        mayZeroForAllCells();
        mayOfNoCell();

        lastCallOfAnObject();
        due.end();
    }

    // BY RULE

    private static void byNoRule() {
        due.sentence("Terms, BY RULE: there is such a rule");
        for (int rules : new int[] {0, 1, 2, 29, 30}) {
            ProofChecker x = new ProofChecker(1, 1, 2);
            for (int rule = 0; rule < rules; rule++) {
                Due.rule(x, 0, 0, 0);
            }
            for (int number : Due.outside(0, rules - 1)) {
                due.is("rule " + number + " of " + rules, Due.rightAlone(x, 0, number, "+0.0 -0.0"), 0);
            }
            if (rules > 0) {
                due.is("the first of " + rules, Due.rightAlone(x, 0, 0, "+0.0 -0.0"), 1);
                due.is("the last of " + rules, Due.rightAlone(x, 0, rules - 1, "+0.0 -0.0"), 1);
            }
        }
    }

    private static void byRuleOfManyCells() {
        due.sentence("Terms, BY RULE: S to the number of its cells is at most 4,096");
        // the most cells that can be tried for 1 .. 6 symbols; 4 to the 6 is 4,096 itself
        int[] most = {9, 9, 7, 6, 5, 4};
        for (int symbols = 1; symbols <= 6; symbols++) {
            ProofChecker x = new ProofChecker(4, 4, symbols);
            x.rule(1, 99);
            x.rule(4, 0);
            for (int size = 0; size <= 9; size++) {
                if (size > 0) {
                    x.into(0, 16 - size);
                    x.into(1, 16 - size);
                }
                String name = symbols + " symbols, " + size + " cells";
                int want = size <= most[symbols - 1] ? 1 : 0;
                due.is(name + ", never met", Due.rightAlone(x, 0, 0, ""), want);
                // in each way one of these is so, if the cell is one of the rule's
                due.is(name + ", is or is not", Due.rightAlone(x, 0, 1, "+15.0 -15.0"), size == 0 ? 0 : want);
            }
        }
    }

    private static void byTheFirstWayOrTheLast() {
        due.sentence("Terms, BY RULE: in each way to fill its cells that meets it one of the literals at least is so");
        ProofChecker x = new ProofChecker(3, 2, 4);
        Due.rule(x, 1, 0, 0, 1, 2, 3, 4, 5);
        Due.rule(x, 1, 18, 0, 1, 2, 3, 4, 5);
        Due.rule(x, 1, 17, 0, 1, 2, 3, 4, 5);
        for (int cell = 0; cell < 6; cell++) {
            due.is("the first of 4096 ways alone", Due.rightAlone(x, 0, 0, "+" + cell + ".0"), 1);
            due.is("the last of 4096 ways alone", Due.rightAlone(x, 0, 1, "+" + cell + ".3"), 1);
            due.is("six ways, not in each", Due.rightAlone(x, 0, 2, "+" + cell + ".3"), 0);
            due.is("six ways, in each", Due.rightAlone(x, 0, 2, "+" + cell + ".3 +" + cell + ".2"), 1);
        }
        due.is("six ways, two cells", Due.rightAlone(x, 0, 2, "+0.3 +1.3"), 1);
        due.is("six ways, none of them has this", Due.rightAlone(x, 0, 2, "+0.1"), 0);
        due.is("six ways, one at least", Due.rightAlone(x, 0, 2, "+0.2 +1.2 +2.2 +3.2 +4.2 +5.2"), 1);
        due.is("six ways, but for one", Due.rightAlone(x, 0, 2, "+0.2 +1.2 +2.2 +3.2 +4.2"), 0);
        due.is("six ways, but for the first", Due.rightAlone(x, 0, 2, "+1.2 +2.2 +3.2 +4.2 +5.2"), 0);
        due.is("no literals, where a way meets it", Due.rightAlone(x, 0, 1, ""), 0);
    }

    private static void byRuleThatNoWayMeets() {
        due.sentence("Terms, BY RULE: in each way that meets it (there may be none)");
        ProofChecker x = new ProofChecker(3, 1, 2);
        Due.rule(x, 0, 0, 0, 1, 2);
        due.is("no literals", Due.rightAlone(x, 0, 0, ""), 1);
        due.is("any literal", Due.rightAlone(x, 0, 0, "+2.1"), 1);
        x.rule(1, 1);
        due.is("a rule without cells that is not met", Due.rightAlone(x, 0, 1, ""), 1);
        x.rule(1, 0);
        due.is("a rule without cells that is met", Due.rightAlone(x, 0, 2, ""), 0);
        due.is("a rule without cells that is met, is or is not", Due.rightAlone(x, 0, 2, "+0.0 -0.0"), 0);
    }

    private static void byRuleOfOtherCells() {
        due.sentence("Terms, BY RULE: (those of other cells are not)");
        ProofChecker x = new ProofChecker(3, 1, 2);
        Due.rule(x, 1, 2, 0, 1);
        due.is("one of its cells", Due.rightAlone(x, 0, 0, "+1.1"), 1);
        due.is("another cell is or is not", Due.rightAlone(x, 0, 0, "+2.0 -2.0"), 0);
        due.is("another cell is one or the other", Due.rightAlone(x, 0, 0, "+2.0 +2.1"), 0);
        due.is("another cell is not one or not the other", Due.rightAlone(x, 0, 0, "-2.0 -2.1"), 0);
        due.is("one of its cells and others", Due.rightAlone(x, 0, 0, "+2.0 -2.0 +0.1"), 1);
    }

    // BY UNITS

    private static void unitsTurnedRound() {
        due.sentence("Terms, BY UNITS: if it says that the cell is a symbol, the cell may not be that; "
                + "if that it is not, the cell may be that alone (of what it may be)");
        ProofChecker x = new ProofChecker(2, 1, 3);
        due.is("+0 +1", Due.rightAlone(x, 1, 0, "+0.0 +0.1"), 0);
        due.is("+0 +1 +2", Due.rightAlone(x, 1, 0, "+0.0 +0.1 +0.2"), 1);
        due.is("+0 +1 of one cell, +2 of another", Due.rightAlone(x, 1, 0, "+0.0 +0.1 +1.2"), 0);
        due.is("-0", Due.rightAlone(x, 1, 0, "-0.0"), 0);
        due.is("-0 -1", Due.rightAlone(x, 1, 0, "-0.0 -0.1"), 1);
        due.is("-0 of one cell, -1 of another", Due.rightAlone(x, 1, 0, "-0.0 -1.1"), 0);
        due.is("-0 +0", Due.rightAlone(x, 1, 0, "-0.0 +0.0"), 1);
        due.is("+0 -0", Due.rightAlone(x, 1, 0, "+0.0 -0.0"), 1);
        due.is("-0 +1", Due.rightAlone(x, 1, 0, "-0.0 +0.1"), 0);
        for (int number : new int[] {MIN, -1, 1, 99, MAX}) {
            due.is("whatever its number: " + number, Due.rightAlone(x, 1, number, "+0.0 -0.0"), 1);
        }
    }

    private static void unitsOfACellThatMayBeNothing() {
        due.sentence("Terms, BY UNITS: a cell that may be nothing CAN'T BE");
        for (int cell = 0; cell < 16; cell++) {
            ProofChecker x = new ProofChecker(4, 4, 2);
            due.is("cell " + cell + " may be nothing", Due.rightAlone(x, 1, 0, "+" + cell + ".0 +" + cell + ".1"), 1);
            due.is("cell " + cell + " may be one", Due.rightAlone(x, 1, 0, "+" + cell + ".0"), 0);
        }
    }

    private static void unitsOfEmptyLines() {
        due.sentence("Terms, BY UNITS: when each of its literals IS NOT SO: that CAN'T BE (as where it has none)");
        ProofChecker x = Due.withNeverMet(2, 1, 2);
        due.is("no lines ahead", Due.right(x, "u;"), 0);
        due.is("an empty line ahead", Due.right(x, "r0;u;"), 2);
        due.is("an empty line ahead, with a literal", Due.right(x, "r0;u +1.1;"), 2);
        due.is("an empty line behind another", Due.right(x, "r0 +0.0;r0;u +1.1;"), 3);
        due.is("a line of which each is not so", Due.right(x, "r0 +0.0 -1.1;u -0.1 +1.1;"), 1);
        due.is("a line of which each is not so, turned round", Due.right(x, "r0 +0.0 -1.1;u +0.0 -1.1;"), 2);
    }

    private static void unitsOfOneOpenLiteral() {
        due.sentence("Terms, BY UNITS: when none IS SO and just one is open, that one is made so");
        ProofChecker x = Due.withNeverMet(3, 1, 3);
        due.is("one open", Due.right(x, "r0 +0.0;u +0.0;"), 2);
        due.is("one open, that it is not", Due.right(x, "r0 -0.0;u -0.0;"), 2);
        due.is("two open", Due.right(x, "r0 +0.0 +1.0;u +0.0;"), 1);
        due.is("two open, of one cell", Due.right(x, "r0 +0.0 +0.1;u +0.0;"), 1);
        due.is("one open, the others not so", Due.right(x, "r0 +1.0 +0.0 +2.0;u +0.0 +1.0 +2.0;"), 2);
        due.is("one open, one is so", Due.right(x, "r0 +1.0 +0.0;u -1.0 +0.0;"), 1);
        due.is("one open, the one ahead is so", Due.right(x, "r0 +0.0 +1.0;u -0.0 +1.0;"), 1);
        due.is("may be s alone, by that it is not", Due.right(x, "r0 -0.0;r0 -0.1;u +0.2;"), 3);
        due.is("may be two", Due.right(x, "r0 -0.0;u +0.2;"), 1);
        due.is("may be s alone, by that it is", Due.right(x, "r0 +0.2;u -0.0;u -0.1;"), 3);
        Due.read(x, "r0 +0.0 +0.1;");
        due.is("two open of one cell make no step", x.may(0), 7);
        Due.read(x, "r0 -0.0;");
        due.is("one of them is left", x.may(0), 2);
    }

    private static void unitsOfOneSymbol() {
        due.sentence("Terms, BY UNITS: A literal that a cell is s IS SO when it may be s alone, "
                + "IS NOT SO when it may not be s (from the first on, where there is one symbol)");
        ProofChecker x = Due.withNeverMet(2, 1, 1);
        due.is("it is", Due.right(x, "u +0.0;"), 1);
        due.is("it is not", Due.right(x, "u -0.0;"), 0);
        due.is("it is, ahead", Due.right(x, "r0 +0.0;u;"), 1);
        due.is("it is not, ahead", Due.right(x, "r0 -0.0;u;"), 2);
        due.is("one is not, or the other is", Due.right(x, "r0 -0.0 +1.0;u;"), 1);
        due.is("neither is", Due.right(x, "r0 -0.0 -1.0;u;"), 2);
    }

    private static void unitsFromTheFirstOnAgain() {
        due.sentence("Terms, BY UNITS: in order, from the first one on again after each change");
        // 58 lines, each of which can make its step only when the one behind it has made it
        ProofChecker x = Due.withNeverMet(4, 4, 6);
        int steps = 57;
        for (int n = steps; n > 0; n--) {
            x.line(0, 0);
            x.literal(cellOf(n - 1), symbolOf(n - 1), true);
            x.literal(cellOf(n), symbolOf(n), false);
        }
        x.line(0, 0);
        x.literal(cellOf(0), symbolOf(0), false);
        due.is("the last step has been made", x.may(cellOf(steps)) & (1 << symbolOf(steps)), 0);
        x.line(1, 0);
        x.literal(cellOf(steps), symbolOf(steps), false);
        due.is("by units the longest way", x.check(), 59);
        x.line(1, 0);
        x.literal(cellOf(steps + 1), symbolOf(steps + 1), false);
        due.is("but not one step more", x.check(), 59);
    }

    /** Symbols 0 .. 3 of cells 0 .. 15, so that no cell loses so many that a step makes another. */
    private static int cellOf(int step) {
        return step % 16;
    }

    private static int symbolOf(int step) {
        return step / 16;
    }

    private static void unitsOfLinesAhead() {
        due.sentence("Terms, BY UNITS: For the lines ahead (not the line itself, nor those behind)");
        ProofChecker x = Due.withNeverMet(2, 1, 2);
        due.is("the line itself", Due.right(x, "u +0.0;"), 0);
        due.is("a line behind", Due.right(x, "u +0.0;r0 +0.0;"), 0);
        due.is("the line ahead", Due.right(x, "r0 +0.0;u +0.0;"), 2);
        due.is("the first of lines ahead", Due.right(x, "r0 +0.0;r0 +1.0;r0 +1.0;u +0.0;"), 4);
        due.is("a line that went", Due.right(x, "u +0.0;"), 0);
    }

    // BY SPLIT

    private static void splitOfNoCell() {
        due.sentence("Terms, BY SPLIT: there is such a cell");
        for (int[] size : new int[][] {{1, 1}, {1, 4}, {4, 1}, {3, 3}, {4, 4}}) {
            ProofChecker x = new ProofChecker(size[0], size[1], 2);
            int cells = size[0] * size[1];
            for (int number : Due.outside(0, cells - 1)) {
                due.is("cell " + number + " of " + cells, Due.rightAlone(x, 2, number, "+0.0 -0.0"), 0);
            }
            due.is("the first of " + cells, Due.rightAlone(x, 2, 0, "+0.0 -0.0"), 1);
            due.is("the last of " + cells, Due.rightAlone(x, 2, cells - 1, "+0.0 -0.0"), 1);
        }
    }

    private static void splitWhereUnitsDo() {
        due.sentence("Terms, BY SPLIT: and by units something can't be as in kind 1");
        ProofChecker x = Due.withNeverMet(2, 1, 2);
        due.is("a cell that may be nothing", Due.right(x, "s1 +0.0 +0.1;"), 1);
        due.is("an empty line ahead", Due.right(x, "r0;s1;"), 2);
        due.is("by a step", Due.right(x, "r0 +0.0;s1 +0.0;"), 2);
        due.is("nothing, neither by a split", Due.right(x, "s1;"), 0);
        due.is("not by a split of another cell", Due.right(x, "s1 +0.0;"), 0);
    }

    private static void splitOfEachSymbol() {
        due.sentence("Terms, BY SPLIT: for each symbol that the cell may be then: when it may be that alone "
                + "something can't be, by units going on from there");
        for (int symbols = 2; symbols <= 6; symbols++) {
            for (int open = 0; open < symbols; open++) {
                ProofChecker x = Due.withNeverMet(2, 1, symbols);
                StringBuilder text = new StringBuilder();
                for (int symbol = 0; symbol < symbols; symbol++) {
                    if (symbol != open) {
                        text.append("r0 -0.").append(symbol).append(" +1.0;");
                        text.append("r0 -0.").append(symbol).append(" -1.0;");
                    }
                }
                int ahead = 2 * symbols - 2;
                String name = "all of " + symbols + " but " + open;
                due.is(name, Due.right(x, text + "s0;"), ahead);
                due.is(name + ", and it is", Due.right(x, text + "s0 +0." + open + ";"), ahead + 1);
                text.append("r0 -0.").append(open).append(" +1.0;");
                text.append("r0 -0.").append(open).append(" -1.0;");
                due.is("all of " + symbols + ", " + open + " last", Due.right(x, text + "s0;"), ahead + 3);
            }
        }
        ProofChecker x = Due.withNeverMet(3, 1, 2);
        String each = "r0 -0.0 +1.0;r0 -0.0 +1.1;r0 -0.1 +2.0;r0 -0.1 +2.1;";
        due.is("each symbol from the same state", Due.right(x, each + "s0;"), 5);
        due.is("not what the symbol ahead made of others",
                Due.right(x, "r0 -0.0 +1.0;r0 -0.0 +2.0;r0 -0.0 -1.0 -2.0;r0 -0.1 -1.0 -2.0;s0;"), 4);
    }

    private static void splitOfWhatItMayBeThen() {
        due.sentence("Terms, BY SPLIT: that the cell may be then (after the units, not at first)");
        ProofChecker x = Due.withNeverMet(2, 1, 3);
        String two = "r0 -0.0 +1.0;r0 -0.0 -1.0;r0 -0.1 +1.0;r0 -0.1 -1.0;";
        due.is("it may be symbol 2", Due.right(x, two + "s0;"), 4);
        due.is("a line takes symbol 2 away", Due.right(x, two + "r0 -0.2;s0;"), 6);
        due.is("the line itself takes it away", Due.right(x, two + "s0 +0.2;"), 5);
        due.is("the line itself leaves it alone", Due.right(x, two + "s0 -0.2;"), 4);
        due.is("the line itself leaves symbol 1 alone", Due.right(x, two + "s0 -0.1;"), 5);
    }

    // BARRED

    /** Three cells, a rule that 0 1 2 meets. */
    private static ProofChecker withAnswer(int... symbols) {
        ProofChecker x = new ProofChecker(3, 1, 3);
        Due.rule(x, 2, 0, 0, 1, 2);
        Due.answer(x, symbols);
        return x;
    }

    private static void barredWhole() {
        due.sentence("Terms, BARRED: THE ANSWER is whole");
        due.is("whole", Due.right(withAnswer(0, 1, 2), "b -0.0 -1.1 -2.2;"), 1);
        for (int unsaid = 0; unsaid < 3; unsaid++) {
            ProofChecker x = withAnswer(0, 1, 2);
            x.answer(unsaid, -1);
            due.is("but for cell " + unsaid, Due.right(x, "b -0.0 -1.1 -2.2;"), 0);
        }
        ProofChecker x = new ProofChecker(2, 1, 2);
        due.is("nothing is said, no literals, no rules", Due.right(x, "b;"), 0);
        x.answer(0, 1);
        due.is("one is said, one literal, no rules", Due.right(x, "b -0.1;"), 0);
        due.is("one is said, two literals, no rules", Due.right(x, "b -0.1 -0.0;"), 0);
        x.answer(1, 1);
        due.is("all is said, no rules", Due.right(x, "b -0.1 -1.1;"), 1);
        for (int number : new int[] {MIN, -1, 5, 99, MAX}) {
            due.is("whatever its number: " + number, Due.rightAlone(x, 3, number, "-0.1 -1.1"), 1);
        }
    }

    private static void barredMeetsAll() {
        due.sentence("Terms, BARRED: and meets all rules");
        due.is("not the rule", Due.right(withAnswer(0, 2, 2), "b -0.0 -1.2 -2.2;"), 0);
        for (int unmet = 1; unmet < 30; unmet++) {
            ProofChecker x = withAnswer(0, 1, 2);
            for (int rule = 1; rule < 30; rule++) {
                x.rule(1, rule == unmet ? 1 : 0);
            }
            due.is("but for rule " + unmet, Due.right(x, "b -0.0 -1.1 -2.2;"), 0);
        }
        ProofChecker x = withAnswer(0, 1, 2);
        for (int rule = 1; rule < 30; rule++) {
            x.rule(1, 0);
        }
        due.is("30 rules", Due.right(x, "b -0.0 -1.1 -2.2;"), 1);
    }

    private static void barredOneForEachCell() {
        due.sentence("Terms, BARRED: the line has just one literal for each cell: that it is not what it is");
        ProofChecker x = withAnswer(0, 1, 2);
        due.is("no literals", Due.right(x, "b;"), 0);
        due.is("without the first", Due.right(x, "b -1.1 -2.2;"), 0);
        due.is("without the last", Due.right(x, "b -0.0 -1.1;"), 0);
        due.is("one more", Due.right(x, "b -0.0 -1.1 -2.2 -2.1;"), 0);
        due.is("one more, that it is", Due.right(x, "b -0.0 -1.1 -2.2 +0.0;"), 0);
        due.is("one more, ahead", Due.right(x, "b -0.1 -0.0 -1.1 -2.2;"), 0);
        due.is("one cell twice", Due.right(x, "b -0.0 -1.1 -1.0;"), 0);
        for (int cell = 0; cell < 3; cell++) {
            String all = "b -0.0 -1.1 -2.2;";
            String literal = "-" + cell + "." + cell;
            due.is("cell " + cell + " is", Due.right(x, all.replace(literal, "+" + cell + "." + cell)), 0);
            due.is("cell " + cell + " is not another",
                    Due.right(x, all.replace(literal, "-" + cell + "." + (cell + 1) % 3)), 0);
        }
        ProofChecker one = new ProofChecker(1, 1, 1);
        one.answer(0, 0);
        due.is("one cell of one symbol", Due.right(one, "b -0.0;"), 1);
        due.is("one cell, no literals", Due.right(one, "b;"), 0);
        due.is("one cell, one more", Due.right(one, "b -0.0 +0.0;"), 0);
    }

    private static void barredInAnyOrder() {
        due.sentence("Terms, BARRED: (in any order)");
        int[][] orders = {{0, 1, 2}, {0, 2, 1}, {1, 0, 2}, {1, 2, 0}, {2, 0, 1}, {2, 1, 0}};
        ProofChecker x = withAnswer(0, 1, 2);
        for (int[] order : orders) {
            StringBuilder text = new StringBuilder("b");
            for (int cell : order) {
                text.append(" -").append(cell).append('.').append(cell);
            }
            due.is(text.toString(), Due.right(x, text + ";"), 1);
        }
        ProofChecker y = new ProofChecker(4, 4, 6);
        y.line(3, 0);
        for (int n = 0; n < 16; n++) {
            int cell = (5 * n + 3) % 16;
            due.is("before literal " + n + " of sixteen", y.check(), 0);
            y.answer(cell, (n + 5) % 6);
            y.literal(cell, (n + 5) % 6, false);
        }
        due.is("sixteen cells", y.check(), 1);
    }

    // Promise 10

    private static void checkFromTheFirst() {
        due.sentence("Promise 10: How many lines are right, from the first one on");
        ProofChecker x = Due.withNeverMet(2, 1, 2);
        due.is("no lines", x.check(), 0);
        due.is("the first is wrong", Due.right(x, "r1 +0.0;r0 +0.0;r0 +0.0;"), 0);
        due.is("the second is wrong", Due.right(x, "r0 +0.0;r1 +0.0;r0 +0.0;"), 1);
        due.is("the last is wrong", Due.right(x, "r0 +0.0;r0 +0.0;r1 +0.0;"), 2);
        due.is("none is wrong", Due.right(x, "r0 +0.0;r0 +0.0;r0 +0.0;"), 3);
    }

    private static void checkOfSixty() {
        due.sentence("Promise 10: How many lines are right (of as many as there may be)");
        for (int wrong = 0; wrong <= 60; wrong++) {
            ProofChecker x = Due.withNeverMet(2, 1, 2);
            for (int line = 0; line < 60; line++) {
                x.line(0, line == wrong ? 1 : 0);
            }
            due.is("line " + wrong + " is wrong", x.check(), wrong);
            due.is("line " + wrong + " is wrong, proves", x.proves(), wrong == 60 ? 1 : 0);
        }
    }

    private static void checkAsAllIsNow() {
        due.sentence("Promise 10: (as all is now)");
        ProofChecker x = new ProofChecker(2, 1, 2);
        x.line(0, 0);
        x.literal(0, 1, true);
        due.is("no rule", x.check(), 0);
        x.rule(1, 1);
        due.is("a rule that is never met", x.check(), 1);
        x.into(0, 0);
        due.is("its first cell", x.check(), 1);
        x.into(0, 1);
        due.is("its second cell", x.check(), 0);
        x.literal(1, 1, true);
        due.is("another literal", x.check(), 1);
        x.line(3, 0);
        x.literal(0, 1, false);
        x.literal(1, 0, false);
        due.is("no answer", x.check(), 1);
        Due.answer(x, 1, 0);
        due.is("an answer", x.check(), 2);
        x.answer(1, 1);
        due.is("another answer", x.check(), 1);
        x.answer(1, 0);
        x.rule(1, 1);
        due.is("a rule that it does not meet", x.check(), 1);
    }

    // Promise 11

    private static void provesNot() {
        due.sentence("Promise 11: 0 when not");
        ProofChecker x = Due.withNeverMet(2, 1, 2);
        due.is("no lines", x.proves(), 0);
        due.is("the last one has a literal", proof(x, "r0 +0.0;"), 0);
        due.is("the last one has a literal, the one ahead none", proof(x, "r0;r0 +0.0;"), 0);
        due.is("the only line is wrong", proof(x, "r1;"), 0);
        due.is("the first line is wrong", proof(x, "r1;r0;"), 0);
        due.is("the last line is wrong", proof(x, "r0 +0.0;r1;"), 0);
        due.is("a barred line is wrong", proof(x, "b;r0;"), 0);
        due.is("a barred line is wrong and the last", proof(x, "r0;b;"), 0);
        x.line(0, 0);
        due.is("it has none", x.proves(), 1);
        x.literal(0, 0, true);
        due.is("it has one", x.proves(), 0);
    }

    private static int proof(ProofChecker x, String text) {
        Due.read(x, text);
        int proof = x.proves();
        Due.rightAndGone(x);
        return proof;
    }

    private static void provesNoAnswer() {
        due.sentence("Promise 11: 1 when no line is BARRED (there is no answer)");
        ProofChecker x = Due.withNeverMet(1, 1, 2);
        x.rule(1, 0);
        due.is("by rule", proof(x, "r0;"), 1);
        due.is("by units", proof(x, "r0 +0.0;r0 -0.0;u;"), 1);
        due.is("by split", proof(x, "r0 +0.0;r0 +0.1;s0;"), 1);
        due.is("two lines without literals", proof(x, "r0;u;"), 1);
        due.is("a line without literals in the midst", proof(x, "r0;u +0.0;u;"), 1);
        x.answer(0, 0);
        due.is("whatever THE ANSWER says", proof(x, "r0;"), 1);
    }

    private static void provesNoneButTheAnswer() {
        due.sentence("Promise 11: 2 when one is (there is none but THE ANSWER)");
        String barred = "b -0.0 -1.1 -2.2;";
        due.is("the first one", proof(withAnswer(0, 1, 2), barred + "r0 +0.0;r0 +1.1;r0 +2.2;u;"), 2);
        due.is("in the midst", proof(withAnswer(0, 1, 2), "r0 +0.0;" + barred + "r0 +1.1;r0 +2.2;u;"), 2);
        due.is("ahead of the last", proof(withAnswer(0, 1, 2), "r0 +0.0;r0 +1.1;r0 +2.2;" + barred + "u;"), 2);
        due.is("two of them", proof(withAnswer(0, 1, 2), barred + barred + "r0 +0.0;r0 +1.1;r0 +2.2;u;"), 2);
        due.is("not ended", proof(withAnswer(0, 1, 2), "r0 +0.0;r0 +1.1;r0 +2.2;" + barred), 0);
        due.is("another answer", proof(withAnswer(0, 1, 1), "r0 +0.0;r0 +1.1;r0 +2.2;" + barred + "u;"), 0);
    }

    // Promise 13

    private static void mayOfNothing() {
        due.sentence("Promise 13: What a cell may be (as bits), by units from nothing");
        for (int symbols = 1; symbols <= 6; symbols++) {
            ProofChecker x = new ProofChecker(4, 4, symbols);
            for (int cell = 0; cell < 16; cell++) {
                due.is("no lines, cell " + cell + " of " + symbols + " symbols", x.may(cell), (1 << symbols) - 1);
            }
        }
        for (int symbol = 0; symbol < 6; symbol++) {
            for (int cell = 0; cell < 16; cell += 15) {
                ProofChecker x = new ProofChecker(4, 4, 6);
                Due.read(x, "u -" + cell + "." + symbol + ";");
                due.is("not " + symbol, x.may(cell), 63 - (1 << symbol));
                Due.read(x, "u +" + cell + "." + (5 - symbol) + ";");
                due.is("but " + (5 - symbol), x.may(cell), 1 << (5 - symbol));
                due.is("another cell", x.may(7), 63);
            }
        }
    }

    private static void mayOfLinesTakenForRight() {
        due.sentence("Promise 13: when all lines are taken for right");
        ProofChecker x = new ProofChecker(2, 1, 3);
        for (int line = 0; line < 59; line++) {
            x.line(line % 4, -1);
            x.literal(0, line % 3, true);
            x.literal(1, 1, false);
        }
        due.is("59 lines, no step", x.may(0), 7);
        x.line(3, MIN);
        x.literal(1, 0, true);
        due.is("the 60th line, wrong as it is", x.may(1), 1);
        due.is("none of them is right", x.check(), 0);
        ProofChecker y = new ProofChecker(1, 1, 3);
        y.line(0, MAX);
        y.literal(0, 2, false);
        due.is("one line, wrong as it is", y.may(0), 3);
    }

    private static void mayZeroForAllCells() {
        due.sentence("Promise 13: 0 for all cells as soon as something can't be");
        ProofChecker x = new ProofChecker(4, 4, 2);
        Due.read(x, "u +3.0;");
        due.is("as long as all can be", x.may(3), 1);
        Due.read(x, "u +3.1;");
        for (int cell = 0; cell < 16; cell++) {
            due.is("cell " + cell, x.may(cell), 0);
        }
        x.drop();
        due.is("the line that can't be went", x.may(3), 1);
        due.is("another cell", x.may(0), 3);
        x.line(0, 0);
        for (int cell = 0; cell < 16; cell++) {
            due.is("a line without literals, cell " + cell, x.may(cell), 0);
        }
    }

    private static void mayOfNoCell() {
        due.sentence("Promise 13: ArrayIndexOutOfBoundsException: there is no such cell");
        for (int cell : Due.outside(0, 11)) {
            twins.refuse("may(" + cell + ")", Due.NO_INDEX, Twins::some, y -> y.may(cell));
            twins.refuse("may(" + cell + "), no lines", Due.NO_INDEX, Twins::empty, y -> y.may(cell));
            twins.refuse("may(" + cell + "), something can't be", Due.NO_INDEX, Twins::fullOfLines, y -> y.may(cell));
        }
        for (int[] size : new int[][] {{1, 1}, {1, 4}, {4, 1}, {3, 3}, {4, 4}}) {
            ProofChecker x = new ProofChecker(size[0], size[1], 2);
            int cells = size[0] * size[1];
            due.is("the first of " + cells, x.may(0), 3);
            due.is("the last of " + cells, x.may(cells - 1), 3);
            due.isThrown("behind the last of " + cells, Due.NO_INDEX, () -> x.may(cells));
            due.isThrown("-1 of " + cells, Due.NO_INDEX, () -> x.may(-1));
        }
    }

    private static void lastCallOfAnObject() {
        due.sentence("What it is: An object is used for at most 512 calls after it has been made");
        ProofChecker x = new ProofChecker(2, 1, 2);
        int calls = 0;
        for (int n = 0; n < 128; n++) {
            due.is("line", x.line(1, n), 0);
            due.is("tell", x.tell(0, 1), n);
            due.is("drop", x.drop(), true);
            due.is("answer", x.answer(1, n % 2), true);
            calls += 4;
        }
        due.is("calls", calls, 512);
    }
}
