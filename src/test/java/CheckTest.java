/** Promises 10, 11 and 13: lines that are right, proofs, and what a cell may be. */
public final class CheckTest {
    private static final Due due = new Due();

    public static void main(String[] args) {
        byRule();
        byRuleWithoutCells();
        waysAtMost();
        byUnits();
        bySplit();
        barred();
        barredOfSixteen();
        rightFromTheFirstOn();
        proves();
        may();
        mayOfOneSymbol();
        due.end();
    }

    private static void byRule() {
        ProofChecker x = new ProofChecker(3, 1, 3);
        Due.rule(x, 0, 0, 0, 1);
        Due.rule(x, 1, 4, 0, 1);
        Due.rule(x, 2, 0, 0, 1, 2);
        due.is("unlike: one of both is not 1", Due.right(x, "r0 -0.1 -1.1;"), 1);
        due.is("unlike: one of both is 1", Due.right(x, "r0 +0.1 +1.1;"), 0);
        due.is("unlike: one of both is 0 or 1", Due.right(x, "r0 +0.0 +0.1 +1.0 +1.1;"), 1);
        due.is("unlike: a literal of another cell is not so", Due.right(x, "r0 +2.0 +2.1 +2.2;"), 0);
        due.is("unlike: nor is that it is not", Due.right(x, "r0 -2.0 -2.1;"), 0);
        due.is("unlike: a cell is one or is not", Due.right(x, "r0 +0.1 -0.1;"), 1);
        due.is("unlike: a cell is not one or not the other", Due.right(x, "r0 -0.1 -0.2;"), 1);
        due.is("unlike: no literals", Due.right(x, "r0;"), 0);
        due.is("add up: both are 2", Due.right(x, "r1 +0.2;r1 +1.2;r1 -0.1;"), 3);
        due.is("rise: all are known", Due.right(x, "r2 +0.0;r2 +1.1;r2 +2.2;"), 3);
        due.is("rise: not this", Due.right(x, "r2 +0.1;"), 0);
        due.is("no such rule", Due.right(x, "r3 +0.1 -0.1;"), 0);
        x.line(0, -1);
        due.is("rule -1", Due.rightAndGone(x), 0);
        x.line(0, Integer.MAX_VALUE);
        due.is("rule MAX", Due.rightAndGone(x), 0);
        Due.rule(x, 1, 5, 0, 1);
        due.is("no way meets it", Due.right(x, "r3;"), 1);
    }

    private static void byRuleWithoutCells() {
        ProofChecker x = new ProofChecker(2, 1, 2);
        x.rule(1, 3);
        x.rule(1, 0);
        x.rule(3, 5);
        due.is("never met", Due.right(x, "r0;r0 +0.1;"), 2);
        due.is("always met", Due.right(x, "r1;"), 0);
        due.is("always met, with literals", Due.right(x, "r1 +0.0 +0.1;"), 0);
        due.is("kind 3, always met", Due.right(x, "r2;"), 0);
    }

    private static void waysAtMost() {
        // the most cells that can be tried for 1 .. 6 symbols
        int[] most = {9, 9, 7, 6, 5, 4};
        for (int symbols = 1; symbols <= 6; symbols++) {
            ProofChecker x = new ProofChecker(4, 4, symbols);
            x.rule(1, 99);
            for (int cell = 0; cell < 9; cell++) {
                x.into(0, cell);
                due.is(symbols + " symbols, " + (cell + 1) + " cells", Due.right(x, "r0;"),
                        cell + 1 <= most[symbols - 1] ? 1 : 0);
            }
        }
    }

    private static void byUnits() {
        ProofChecker x = new ProofChecker(3, 1, 3);
        // lines that can't be followed from a rule are still seen by may; check needs right ones
        Due.rule(x, 2, 0, 0, 1, 2);
        Due.rule(x, 0, 0, 0, 1);
        due.is("nothing ahead", Due.right(x, "u +0.0;"), 0);
        due.is("a cell that may be nothing", Due.right(x, "u +0.0 +0.1 +0.2;"), 1);
        due.is("not one and not the other, without lines ahead", Due.right(x, "u -0.0 -0.1;"), 1);
        due.is("is or is not", Due.right(x, "u -0.0 +0.0;"), 1);
        due.is("no literals, nothing ahead", Due.right(x, "u;"), 0);
        due.is("the same again", Due.right(x, "r0 +0.0;u +0.0;"), 2);
        due.is("more literals", Due.right(x, "r0 +0.0;u +2.1 +0.0;"), 2);
        due.is("one step", Due.right(x, "r0 +0.0;r1 -0.0 -1.0;u -1.0;"), 3);
        due.is("the last one that is left", Due.right(x, "r0 -0.1;r0 -0.2;u +0.0;"), 3);
        due.is("a symbol less is not enough", Due.right(x, "r0 -0.1;u +0.0;"), 1);
        due.is("the lines behind do not count", Due.right(x, "u +0.0;r0 +0.0;"), 0);
        due.is("nor the line itself", Due.right(x, "r0 -0.1;u +0.0;r0 +0.0;"), 1);
        due.is("from the first one on again", Due.right(x, "r1 -0.0 -1.0;r0 +0.0;u -1.0;"), 3);
        due.is("the first one, twice", Due.right(x, "r0 +0.0 -1.0;r0 +0.0;r0 -1.0 -0.0;u -1.0;"), 4);
        due.is("its number is free", unitsWithNumber(), 2);
        longWay();
    }

    /** Each step is made by the line ahead of the one that made the last. */
    private static void longWay() {
        ProofChecker x = new ProofChecker(4, 4, 2);
        x.rule(1, 99);
        for (int cell = 15; cell > 0; cell--) {
            Due.read(x, "r0 -" + (cell - 1) + ".1 +" + cell + ".1;");
        }
        Due.read(x, "r0 +0.1;");
        due.is("may(15) the long way", x.may(15), 2);
        Due.read(x, "u +15.1;");
        due.is("by units the long way", x.check(), 17);
        Due.read(x, "u +15.0;");
        due.is("by units not the other symbol", x.check(), 17);
    }

    private static int unitsWithNumber() {
        ProofChecker x = new ProofChecker(3, 1, 3);
        Due.rule(x, 2, 0, 0, 1, 2);
        x.line(0, 0);
        x.literal(0, 0, true);
        x.line(1, -77);
        x.literal(0, 0, true);
        return x.check();
    }

    private static void bySplit() {
        ProofChecker x = new ProofChecker(2, 2, 2);
        // never met, so that any line follows from it
        x.rule(1, 99);
        String all = "r0 +0.0 +1.0;r0 +0.0 +1.1;r0 +0.1 +1.0;r0 +0.1 +1.1;";
        due.is("units alone see nothing", Due.right(x, all + "u;"), 4);
        due.is("by split of cell 0", Due.right(x, all + "s0;"), 5);
        due.is("by split of cell 1", Due.right(x, all + "s1;"), 5);
        due.is("by split of a cell that says nothing", Due.right(x, all + "s3;"), 4);
        due.is("by split of no such cell", Due.right(x, all + "s4;"), 4);
        due.is("by split where units do", Due.right(x, all + "s3 +0.0;"), 5);
        due.is("by split of no such cell where units do", Due.right(x, all + "s4 +0.0;"), 4);
        due.is("by split, nothing ahead", Due.right(x, "s0;"), 0);
        due.is("by split, is or is not", Due.right(x, "s0 +0.0 -0.0;"), 1);
        x.line(2, -1);
        x.literal(0, 0, true);
        x.literal(0, 0, false);
        due.is("by split of cell -1", Due.rightAndGone(x), 0);
        splitNeedsEachSymbol();
        splitOfWhatIsLeft();
    }

    private static void splitNeedsEachSymbol() {
        ProofChecker x = new ProofChecker(2, 2, 2);
        x.rule(1, 99);
        due.is("the last symbol fails not", Due.right(x, "r0 -0.0 +1.0;r0 -0.0 +1.1;s0;"), 2);
        due.is("the first symbol fails not", Due.right(x, "r0 -0.1 +1.0;r0 -0.1 +1.1;s0;"), 2);
        due.is("each symbol starts from the same",
                Due.right(x, "r0 -0.0 +1.0;r0 -0.0 +1.1;r0 -0.1 +1.1;s0;"), 3);
        due.is("only one cell is split",
                Due.right(x, "r0 +0.0 +1.0 +2.0;r0 +0.0 +1.1 +2.0;r0 +0.1 +1.0 +2.0;r0 +0.1 +1.1 +2.0;s0;"), 4);
        due.is("with a literal of the line",
                Due.right(x, "r0 +0.0 +1.0 +2.0;r0 +0.0 +1.1 +2.0;r0 +0.1 +1.0 +2.0;r0 +0.1 +1.1 +2.0;s0 +2.0;"), 5);
    }

    private static void splitOfWhatIsLeft() {
        ProofChecker x = new ProofChecker(2, 1, 3);
        x.rule(1, 99);
        String two = "r0 -0.0 +1.0;r0 -0.0 -1.0;r0 -0.1 +1.0;r0 -0.1 -1.0;";
        due.is("symbol 2 is left", Due.right(x, two + "s0;"), 4);
        due.is("symbol 2 is not left by a line", Due.right(x, "r0 -0.2 +1.1;" + two + "s0 +1.1;"), 6);
        due.is("symbol 2 is not left by the line itself", Due.right(x, two + "s0 +0.2;"), 5);
        due.is("symbol 2 alone is left by the line itself", Due.right(x, two + "s0 -0.2;"), 4);
    }

    private static void barred() {
        ProofChecker x = new ProofChecker(2, 1, 3);
        Due.rule(x, 1, 3, 0, 1);
        due.is("barred without an answer", Due.right(x, "b -0.1 -1.2;"), 0);
        Due.answer(x, 1);
        due.is("barred, not whole", Due.right(x, "b -0.1 -1.2;"), 0);
        due.is("barred, not whole, fewer literals", Due.right(x, "b -0.1;"), 0);
        Due.answer(x, 1, 1);
        due.is("barred, a rule not met", Due.right(x, "b -0.1 -1.1;"), 0);
        Due.answer(x, 1, 2);
        due.is("barred", Due.right(x, "b -0.1 -1.2;"), 1);
        due.is("barred in another order", Due.right(x, "b -1.2 -0.1;"), 1);
        due.is("barred, one literal too few", Due.right(x, "b -0.1;"), 0);
        due.is("barred, no literals", Due.right(x, "b;"), 0);
        due.is("barred, one too many", Due.right(x, "b -0.1 -1.2 -1.1;"), 0);
        due.is("barred, a literal that it is", Due.right(x, "b -0.1 +1.2;"), 0);
        due.is("barred, a first literal that it is", Due.right(x, "b +0.1 -1.2;"), 0);
        due.is("barred, another symbol", Due.right(x, "b -0.1 -1.1;"), 0);
        due.is("barred, another symbol first", Due.right(x, "b -0.2 -1.2;"), 0);
        due.is("barred, one cell twice", Due.right(x, "b -0.1 -0.2;"), 0);
        due.is("barred lines are used by units", Due.right(x, "b -0.1 -1.2;u -0.1 -1.2;"), 2);
        x.rule(1, 1);
        due.is("barred, a rule without cells not met", Due.right(x, "b -0.1 -1.2;"), 0);
    }

    private static void barredOfSixteen() {
        ProofChecker x = new ProofChecker(4, 4, 6);
        x.line(3, 9);
        for (int cell = 0; cell < 16; cell++) {
            due.is("barred, before cell " + cell, x.check(), 0);
            x.answer(cell, cell % 6);
            x.literal(cell, cell % 6, false);
        }
        due.is("barred of sixteen cells, without rules", x.check(), 1);
        x.answer(15, 0);
        due.is("as all is now", x.check(), 0);
    }

    private static void rightFromTheFirstOn() {
        ProofChecker x = new ProofChecker(2, 1, 2);
        Due.rule(x, 0, 0, 0, 1);
        Due.read(x, "r0 -0.1 -1.1;r0 +0.1;r0 -0.0 -1.0;");
        due.is("a wrong line in the midst", x.check(), 1);
        Due.rule(x, 1, 2, 0, 1);
        due.is("another rule says nothing", x.check(), 1);
        x.drop();
        x.drop();
        Due.read(x, "r1 +0.1;");
        due.is("that rule is its reason", x.check(), 2);
        x.into(0, 0);
        due.is("into refused", x.check(), 2);
        ProofChecker y = new ProofChecker(3, 1, 2);
        Due.rule(y, 1, 2, 0, 1);
        Due.read(y, "r0 +0.1;");
        due.is("before the rule grew", y.check(), 1);
        y.into(0, 2);
        due.is("as all is now: the rule grew", y.check(), 0);
    }

    private static void proves() {
        ProofChecker x = new ProofChecker(2, 1, 2);
        Due.rule(x, 1, 3, 0, 1);
        Due.rule(x, 0, 0, 0, 1);
        due.is("proves: no line", x.proves(), 0);
        Due.read(x, "r0;");
        due.is("proves: there is no answer", x.proves(), 1);
        Due.read(x, "u +0.0;");
        due.is("proves: the last line has a literal", x.proves(), 0);
        Due.read(x, "u;");
        due.is("proves: the last line has none again", x.proves(), 1);
        Due.read(x, "b;");
        due.is("proves: the last line is wrong", x.proves(), 0);
        ProofChecker z = new ProofChecker(2, 1, 2);
        z.rule(1, 3);
        Due.read(z, "r1;u;");
        due.is("proves: the first line is wrong", z.proves(), 0);
        z.rule(1, 3);
        due.is("proves: as all is now", z.proves(), 1);
        ProofChecker y = new ProofChecker(2, 1, 2);
        Due.rule(y, 2, 0, 0, 1);
        Due.answer(y, 0, 1);
        Due.read(y, "r0 +0.0;r0 +1.1;");
        due.is("proves: not ended", y.proves(), 0);
        Due.read(y, "b -0.0 -1.1;");
        due.is("proves: barred, not ended", y.proves(), 0);
        Due.read(y, "u;");
        due.is("proves: none but THE ANSWER", y.proves(), 2);
        y.answer(0, -1);
        due.is("proves: without THE ANSWER", y.proves(), 0);
    }

    private static void may() {
        ProofChecker x = new ProofChecker(2, 1, 4);
        due.isThrown("may(2)", Due.NO_INDEX, () -> x.may(2));
        due.isThrown("may(-1)", Due.NO_INDEX, () -> x.may(-1));
        due.is("may(0) without lines", x.may(0), 15);
        Due.read(x, "r9 -0.1;");
        due.is("may(0), taken for right", x.may(0), 13);
        due.is("may(1) of another cell", x.may(1), 15);
        Due.read(x, "r9 +1.2 +0.1;");
        due.is("may(1) by a step", x.may(1), 4);
        Due.read(x, "r9 -0.3 -1.2;");
        due.is("may(0) by the next step", x.may(0), 5);
        Due.read(x, "r9 +0.0 +1.0 -1.2 +0.2;");
        due.is("may(0), two are open", x.may(0), 5);
        Due.read(x, "r9 +0.3 +0.1;");
        due.is("may(0), something can't be", x.may(0), 0);
        due.is("may(1), something can't be", x.may(1), 0);
        x.drop();
        due.is("may(0) once it went", x.may(0), 5);
        Due.read(x, "u;");
        due.is("may(0) with an empty line", x.may(0), 0);
        x.drop();
        x.answer(0, 0);
        due.is("may(0): THE ANSWER says nothing here", x.may(0), 5);
    }

    private static void mayOfOneSymbol() {
        ProofChecker x = new ProofChecker(1, 1, 1);
        due.is("may(0) of one symbol", x.may(0), 1);
        Due.read(x, "u +0.0;");
        due.is("may(0), it is so", x.may(0), 1);
        due.is("it may be nothing when turned round", x.check(), 1);
        Due.read(x, "u -0.0;");
        due.is("may(0), it is not so", x.may(0), 0);
        due.is("that it is not does not follow", x.check(), 1);
    }
}
