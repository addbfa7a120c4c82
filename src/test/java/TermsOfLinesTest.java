import java.util.ArrayList;
import java.util.List;

/** The terms from LITERAL to BARRED: a test for each sentence, in the document's words and order. */
public final class TermsOfLinesTest {
    private static final int MIN = Integer.MIN_VALUE;
    private static final int MAX = Integer.MAX_VALUE;
    private static final Due due = new Due();

    public static void main(String[] args) {
        literal();
        line();
        linesAtMost();
        literalsAtMost();
        rightIfAllAhead();

        suchARule();
        waysAtMost();
        eachWayThatMeets();
        otherCells();

        allSymbolsAtFirst();
        turnedRound();
        nothingCantBe();
        linesAhead();
        firstOneOnAgain();
        eachIsNotSo();
        justOneIsOpen();
        soAndNotSo();

        suchACell();
        asInKindOne();
        eachSymbolThen();
        goingOnFromThere();

        answerIsWhole();
        answerMeetsAllRules();
        oneForEachCell();
        inAnyOrder();
        due.end();
    }

    // LITERAL, LINE

    private static void literal() {
        due.sentence("A LITERAL says that a cell is a symbol, or that it is not.");
        for (int cell = 0; cell < 4; cell++) {
            for (int symbol = 0; symbol < 3; symbol++) {
                ProofChecker x = new ProofChecker(2, 2, 3);
                x.line(1, 0);
                due.is("it is", x.literal(cell, symbol, true), true);
                due.is("it is, told", x.tell(0, 3), 2 * (3 * cell + symbol) + 1);
                due.is("it is, the cell may be", x.may(cell), 1 << symbol);
                due.is("it is, another may be", x.may(3 - cell), 7);
                x.drop();
                x.line(1, 0);
                due.is("it is not", x.literal(cell, symbol, false), true);
                due.is("it is not, told", x.tell(0, 3), 2 * (3 * cell + symbol));
                due.is("it is not, the cell may be", x.may(cell), 7 - (1 << symbol));
                due.is("it is not, another may be", x.may(3 - cell), 7);
            }
        }
        ProofChecker x = new ProofChecker(2, 2, 3);
        x.line(1, 0);
        due.isThrown("no cell", Due.NO_INDEX, () -> x.literal(4, 0, true));
        due.isThrown("no symbol", Due.NO_ARGUMENT, () -> x.literal(3, 3, false));
        due.is("none came", x.tell(0, 2), 0);
    }

    private static void line() {
        due.sentence("A LINE is a kind, a number, and literals; lines are numbered from 0 on");
        ProofChecker x = new ProofChecker(2, 2, 2);
        int[][] lines = {{3, 8, 2, 1, 12}, {0, MAX, 0}, {2, MIN, 1, 14}, {1, -1, 3, 0, 1, 7}};
        for (int n = 0; n < lines.length; n++) {
            due.is("line " + n, x.line(lines[n][0], lines[n][1]), n);
            for (int place = 3; place < lines[n].length; place++) {
                int code = lines[n][place];
                due.is("literal " + code, x.literal(code / 4, code / 2 % 2, code % 2 == 1), true);
            }
        }
        for (int n = 0; n < lines.length; n++) {
            for (int what = 0; what < lines[n].length; what++) {
                due.is("tell(" + n + ", " + what + ")", x.tell(n, what), lines[n][what]);
            }
            due.is("no more of line " + n, x.tell(n, lines[n].length), -1);
        }
        due.is("no such kind", x.line(4, 0), -1);
        due.is("nor this", x.line(-1, 0), -1);
        due.isThrown("no line 4", Due.NO_INDEX, () -> x.tell(4, 0));
        due.isThrown("no line -1", Due.NO_INDEX, () -> x.tell(-1, 0));
    }

    private static void linesAtMost() {
        due.sentence("at most 60");
        ProofChecker x = new ProofChecker(1, 1, 1);
        for (int n = 0; n < 30; n++) {
            due.is("line " + n, x.line(n % 4, n), n);
        }
        due.is("30 more are read", Due.read(x, "r30;u;s32;b;".repeat(7) + "r30;u;"), 30);
        due.is("a 61st", x.line(0, 60), -1);
        due.is("a 61st is not read", Due.read(x, "u;"), -2);
        for (int n = 0; n < 60; n++) {
            due.is("the kind of line " + n, x.tell(n, 0), n < 30 ? n % 4 : (n - 30) % 4);
        }
        due.isThrown("line 60", Due.NO_INDEX, () -> x.tell(60, 0));
    }

    private static void literalsAtMost() {
        due.sentence("at most 16 literals each");
        ProofChecker x = new ProofChecker(4, 4, 6);
        for (int line = 0; line < 3; line++) {
            x.line(1, 0);
            for (int n = 0; n < 18; n++) {
                due.is("literal " + (n + 1), x.literal((n + line) % 16, n % 6, n % 2 == 0), n < 16);
                due.is("how many", x.tell(line, 2), Math.min(16, n + 1));
            }
        }
    }

    // RIGHT

    private static void rightIfAllAhead() {
        due.sentence("A line is RIGHT, if all lines ahead of it are, and");
        String[] right = {"r0 +0.0;", "b -0.0 -1.1;", "u +0.0;", "s1 +1.1 -1.1;", "r0 +1.1;", "u;"};
        // wrong wherever they stand; by units all follows once the lines ahead can't be
        String[] wrong = {"r1;", "r0 -0.0;", "r0;", "s2 +0.0;", "b -0.0;", "b -0.0 -1.0;"};
        for (int place = 0; place < right.length; place++) {
            for (String spoilt : wrong) {
                StringBuilder text = new StringBuilder();
                for (int n = 0; n < right.length; n++) {
                    text.append(n == place ? spoilt : right[n]);
                }
                ProofChecker x = rising();
                due.is("read " + text, Due.read(x, text.toString()), right.length);
                due.is("right of " + text, x.check(), place);
                due.is("proved by " + text, x.proves(), 0);
            }
        }
        String all = String.join("", right);
        due.is("right of all", Due.right(rising(), all), right.length);
        for (String spoilt : new String[] {"u;", "u +1.0;", "s0;", "s1 +0.0;"}) {
            due.is("right of all behind " + spoilt, Due.right(rising(), spoilt + all), 0);
            due.is("right of all behind one and " + spoilt, Due.right(rising(), "r0 -1.0;" + spoilt + all), 1);
        }
    }

    /** Two cells, a rule that 0 1 alone meets, and that answer. */
    private static ProofChecker rising() {
        ProofChecker x = new ProofChecker(2, 1, 2);
        Due.rule(x, 2, 0, 0, 1);
        Due.answer(x, 0, 1);
        return x;
    }

    // BY RULE

    private static void suchARule() {
        due.sentence("kind 0, BY RULE n: there is such a rule");
        ProofChecker x = new ProofChecker(1, 1, 2);
        for (int rules = 0; rules < 30; rules++) {
            due.is("rule " + rules + " of " + rules, Due.rightAlone(x, 0, rules, "+0.0 -0.0"), 0);
            Due.rule(x, 0, 0, 0);
            due.is("rule " + rules + " once there is one more", Due.rightAlone(x, 0, rules, "+0.0 -0.0"), 1);
        }
        x = new ProofChecker(1, 1, 2);
        for (int rules = 0; rules < 30; rules++) {
            Due.rule(x, 0, 0, 0);
        }
        for (int number : Due.outside(0, 29)) {
            due.is("rule " + number, Due.rightAlone(x, 0, number, "+0.0 -0.0"), 0);
        }
    }

    private static void waysAtMost() {
        due.sentence("S to the number of its cells is at most 4,096");
        for (int symbols = 1; symbols <= 6; symbols++) {
            ProofChecker x = new ProofChecker(3, 3, symbols);
            x.rule(2, 0);
            for (int cells = 1; cells <= 9; cells++) {
                x.into(0, cells - 1);
                int want = Math.pow(symbols, cells) <= 4096 ? 1 : 0;
                due.is(symbols + " to the " + cells, Due.rightAlone(x, 0, 0, "+0.0 -0.0"), want);
            }
        }
    }

    /** Cells 2 and 0 of three are those of a rule, of two symbols; literal n is 4 cell + 2 symbol + is. */
    private static boolean follows(int kind, int number, List<Integer> literals) {
        for (int way = 0; way < 4; way++) {
            int first = way / 2;
            int second = way % 2;
            boolean oneIsSo = false;
            for (int literal : literals) {
                int cell = literal / 4;
                int symbol = cell == 2 ? first : second;
                oneIsSo = oneIsSo || (cell != 1 && (symbol == literal / 2 % 2) == (literal % 2 == 1));
            }
            if (meets(kind, number, first, second) && !oneIsSo) {
                return false;
            }
        }
        return true;
    }

    private static boolean meets(int kind, int number, int first, int second) {
        switch (kind) {
            case 0:
                return first != second;
            case 1:
                return first + second == number;
            case 2:
                return second > first;
            case 3:
                return (first == second ? 2 : 1) == number;
            default:
                return first == 0 || second == 0;
        }
    }

    private static void eachWayThatMeets() {
        due.sentence("and in each way to fill its cells that meets it one of the literals at least is so");
        int right = 0;
        for (int kind = 0; kind <= 4; kind++) {
            for (int number = 0; number <= 3; number++) {
                for (List<Integer> literals : upTo(3, 12)) {
                    ProofChecker x = new ProofChecker(3, 1, 2);
                    Due.rule(x, kind, number, 2, 0);
                    x.line(0, 0);
                    for (int literal : literals) {
                        x.literal(literal / 4, literal / 2 % 2, literal % 2 == 1);
                    }
                    int want = follows(kind, number, literals) ? 1 : 0;
                    due.is("kind " + kind + ", number " + number + ", literals " + literals, x.check(), want);
                    right += want;
                }
            }
        }
        due.is("many were right", right > 1000, true);
    }

    /** All lists of up to so many numbers less than a bound, each greater than the one before. */
    private static List<List<Integer>> upTo(int most, int bound) {
        List<List<Integer>> all = new ArrayList<>();
        all.add(List.of());
        for (int n = 0; n < all.size(); n++) {
            List<Integer> before = all.get(n);
            int least = before.isEmpty() ? 0 : before.get(before.size() - 1) + 1;
            for (int next = least; next < bound && before.size() < most; next++) {
                List<Integer> longer = new ArrayList<>(before);
                longer.add(next);
                all.add(longer);
            }
        }
        return all;
    }

    private static void otherCells() {
        due.sentence("(those of other cells are not)");
        ProofChecker x = new ProofChecker(3, 1, 2);
        Due.rule(x, 2, 0, 0, 2);
        due.is("one of its cells", Due.right(x, "r0 +2.1;"), 1);
        due.is("another cell", Due.right(x, "r0 +1.1;"), 0);
        due.is("another cell is or is not", Due.right(x, "r0 +1.1 -1.1;"), 0);
        due.is("another cell is one or the other", Due.right(x, "r0 +1.0 +1.1;"), 0);
        due.is("it does no harm", Due.right(x, "r0 -1.1 +2.1 +1.1;"), 1);
        x.into(0, 1);
        due.is("once it is one of its cells", Due.right(x, "r0 +1.1 -1.1;"), 1);
        for (int other = 0; other < 16; other++) {
            // nine cells of sixteen, but for this one
            ProofChecker y = new ProofChecker(4, 4, 2);
            y.rule(4, 0);
            for (int n = 1; n <= 9; n++) {
                y.into(0, (other + n) % 16);
            }
            String isOrIsNot = "r0 +" + other + ".1 -" + other + ".1;";
            due.is("other is " + other, Due.right(y, isOrIsNot), 0);
            due.is("next to other is one of its cells", Due.right(y, isOrIsNot.replace(" -" + other + ".",
                    " +" + (other + 1) % 16 + ".0 +" + (other + 1) % 16 + ".")), 1);
        }
    }

    // BY UNITS

    private static void allSymbolsAtFirst() {
        due.sentence("kind 1, BY UNITS: when what is said is turned round something can't be: "
                + "each cell MAY BE all symbols at first");
        for (int symbols = 1; symbols <= 6; symbols++) {
            ProofChecker x = new ProofChecker(4, 4, symbols);
            for (int cell = 0; cell < 16; cell++) {
                due.is("cell " + cell + " of " + symbols + " symbols", x.may(cell), (1 << symbols) - 1);
            }
            due.is("so that nothing is wrong", Due.right(x, "u;"), 0);
            Due.answer(x, 0, 0);
            Due.rule(x, 1, 99, 0, 1);
            due.is("whatever rules and answer say", x.may(0), (1 << symbols) - 1);
            due.is("whatever rules and answer say", Due.right(x, "u;"), 0);
        }
    }

    private static void turnedRound() {
        due.sentence("for each literal of the line: if it says that the cell is a symbol, the cell may not be that; "
                + "if that it is not, the cell may be that alone (of what it may be).");
        // all sets of the six literals of a cell that has three symbols
        for (List<Integer> literals : upTo(6, 6)) {
            ProofChecker x = new ProofChecker(2, 1, 3);
            x.line(1, 0);
            int mayBe = 7;
            for (int literal : literals) {
                int bit = 1 << literal / 2;
                boolean is = literal % 2 == 1;
                x.literal(1, literal / 2, is);
                mayBe = is ? mayBe & ~bit : mayBe & bit;
            }
            due.is("literals " + literals, x.check(), mayBe == 0 ? 1 : 0);
        }
        ProofChecker x = Due.withNeverMet(2, 1, 3);
        due.is("of two cells, one is left of each", Due.right(x, "u -0.0 -1.1;"), 0);
        due.is("what is left is used", Due.right(x, "r0 +0.1 +1.2;u +0.1 -1.0;"), 2);
        due.is("but not what may be still", Due.right(x, "r0 +0.1 +1.2;u +0.1 +1.0;"), 1);
    }

    private static void nothingCantBe() {
        due.sentence("Then, over and over: a cell that may be nothing CAN'T BE.");
        for (int cell = 0; cell < 16; cell++) {
            ProofChecker x = new ProofChecker(4, 4, 2);
            due.is("cell " + cell + " is or is not", Due.right(x, "u +" + cell + ".1 -" + cell + ".1;"), 1);
            due.is("cell " + cell + " is either", Due.right(x, "u +" + cell + ".0 +" + cell + ".1;"), 1);
            due.is("cell " + cell + " is not either", Due.right(x, "u -" + cell + ".0 -" + cell + ".1;"), 1);
            due.is("cell " + cell + " is", Due.right(x, "u +" + cell + ".0;"), 0);
            due.is("cell " + cell + " is not", Due.right(x, "u -" + cell + ".0;"), 0);
        }
    }

    private static void linesAhead() {
        due.sentence("For the lines ahead");
        ProofChecker x = Due.withNeverMet(2, 1, 2);
        due.is("ahead", Due.right(x, "r0 +0.0;r0 +1.0;u +0.0;"), 3);
        due.is("the line itself", Due.right(x, "r0 +1.0;u +0.0;"), 1);
        due.is("behind", Due.right(x, "r0 +1.0;u +0.0;r0 +0.0;"), 1);
        ProofChecker y = Due.withNeverMet(2, 1, 2);
        Due.answer(y, 0, 0);
        Due.read(y, "r0 +0.0;");
        due.is("of each kind, by rule", y.may(0), 1);
        Due.read(y, "u -1.1;s0 +1.0 +1.1;b -0.0 -1.0;");
        due.is("of each kind, whether right or not", y.may(1), 0);
        y.drop();
        due.is("of each kind, by units and by split", y.may(1), 1);
    }

    private static void firstOneOnAgain() {
        due.sentence("in order, from the first one on again after each change");
        // each of these lines has its step to make when the one behind it has made its own
        for (int cells = 2; cells <= 16; cells++) {
            ProofChecker x = Due.withNeverMet(4, 4, 2);
            for (int cell = cells - 1; cell > 0; cell--) {
                Due.line(x, 0, 0, "-" + (cell - 1) + ".1 +" + cell + ".1");
            }
            int last = cells - 1;
            due.is("nothing yet, " + cells, x.may(last), 3);
            Due.line(x, 0, 0, "+0.1");
            due.is("to the first line, " + cells, x.may(last), 2);
            Due.line(x, 1, 0, "+" + last + ".1");
            due.is("by units, " + cells, x.check(), cells + 1);
            x.drop();
            Due.line(x, 1, 0, "+" + last + ".0");
            due.is("not the other way, " + cells, x.check(), cells);
        }
        // one cell, which each line takes a symbol from
        for (int symbols = 2; symbols <= 6; symbols++) {
            ProofChecker x = new ProofChecker(1, 1, symbols);
            for (int symbol = symbols - 1; symbol > 0; symbol--) {
                Due.line(x, 1, 0, "-0." + symbol);
                due.is("from " + symbol + " on", x.may(0), (1 << symbol) - 1);
            }
            Due.line(x, 1, 0, "-0.0");
            due.is("the last of " + symbols, x.may(0), 0);
        }
    }

    private static void eachIsNotSo() {
        due.sentence("when each of its literals IS NOT SO: that CAN'T BE");
        ProofChecker x = Due.withNeverMet(3, 1, 3);
        due.is("one of one", Due.right(x, "r0 +0.0;u +0.0;"), 2);
        due.is("three of three", Due.right(x, "r0 +0.0 -1.1 +2.2;u +0.0 -1.1 +2.2;"), 2);
        due.is("none at all", Due.right(x, "r0;u +0.0;"), 2);
        due.is("one of two, the other is so", Due.right(x, "r0 +0.0 -1.1;u +0.0 +1.1;"), 1);
        due.is("one of three, two are open", Due.right(x, "r0 +0.0 -1.1 +2.2;u +0.0;"), 1);
        Due.read(x, "u +0.0;u -0.0;");
        due.is("may", x.may(2), 0);
        due.is("two lines", Due.rightAndGone(x), 0);
    }

    private static void justOneIsOpen() {
        due.sentence("when none IS SO and just one is open, that one is made so "
                + "(the cell may be that alone, or not that).");
        for (int symbol = 0; symbol < 3; symbol++) {
            for (boolean is : new boolean[] {true, false}) {
                ProofChecker x = new ProofChecker(3, 1, 3);
                x.line(1, 0);
                x.literal(0, 1, true);
                x.literal(1, 1, false);
                x.literal(2, symbol, is);
                String name = (is ? "it is " : "it is not ") + symbol;
                due.is(name + ", three are open", x.may(2), 7);
                Due.read(x, "u -0.1;");
                due.is(name + ", two are open", x.may(2), 7);
                Due.read(x, "u +1.1;");
                due.is(name + ", one is open", x.may(2), is ? 1 << symbol : 7 - (1 << symbol));
                x.drop();
                Due.read(x, "u -1.1;");
                due.is(name + ", one is so", x.may(2), 7);
                x.drop();
                Due.read(x, "u +1.2;");
                due.is(name + ", one is so, as it may be another alone", x.may(2), 7);
            }
        }
        ProofChecker x = new ProofChecker(2, 1, 3);
        Due.read(x, "u +0.0 +0.1;");
        due.is("two of one cell are open", x.may(0), 7);
        Due.read(x, "u -0.1;");
        due.is("one of one cell is open", x.may(0), 1);
    }

    /** All that a cell of three symbols may be, and all its literals. */
    private static void soAndNotSo() {
        due.sentence("A literal that a cell is s IS SO when it may be s alone, IS NOT SO when it may not be s; "
                + "that it is not s the other way round.");
        for (int mayBe = 1; mayBe < 8; mayBe++) {
            for (int literal = 0; literal < 6; literal++) {
                int bit = 1 << literal / 2;
                boolean is = literal % 2 == 1;
                boolean so = is ? mayBe == bit : (mayBe & bit) == 0;
                boolean notSo = is ? (mayBe & bit) == 0 : mayBe == bit;
                int made = so ? mayBe : notSo ? 0 : mayBe & (is ? bit : ~bit);
                String name = "of " + mayBe + (is ? " that it is " : " that it is not ") + literal / 2;
                ProofChecker x = cellThatMayBe(mayBe);
                due.is(name, x.may(0), mayBe);
                x.line(1, 0);
                x.literal(0, literal / 2, is);
                due.is(name + ", made so", x.may(0), made);
                x.literal(1, 0, true);
                due.is(name + ", or another", x.may(1), notSo ? 1 : 7);
                due.is(name + ", nothing else", x.may(0), mayBe);
            }
        }
    }

    private static ProofChecker cellThatMayBe(int mayBe) {
        ProofChecker x = new ProofChecker(2, 1, 3);
        for (int symbol = 0; symbol < 3; symbol++) {
            if ((mayBe >> symbol & 1) == 0) {
                Due.line(x, 1, 0, "-0." + symbol);
            }
        }
        return x;
    }

    // BY SPLIT

    private static void suchACell() {
        due.sentence("kind 2, BY SPLIT of cell n: there is such a cell");
        for (int cells = 1; cells <= 4; cells++) {
            for (int[] size : new int[][] {{cells, 1}, {1, cells}, {cells, 4}}) {
                ProofChecker x = new ProofChecker(size[0], size[1], 2);
                int all = size[0] * size[1];
                for (int number = 0; number < all; number++) {
                    due.is("cell " + number + " of " + all, Due.rightAlone(x, 2, number, "+0.0 +0.1"), 1);
                }
                for (int number : Due.outside(0, all - 1)) {
                    due.is("cell " + number + " of " + all, Due.rightAlone(x, 2, number, "+0.0 +0.1"), 0);
                }
            }
        }
    }

    private static void asInKindOne() {
        due.sentence("and by units something can't be as in kind 1");
        ProofChecker x = Due.withNeverMet(3, 1, 2);
        String[] right = {"s2 +0.0 +0.1;", "r0;s2;", "r0 +0.0;s2 +0.0;", "r0 +0.0;r0 -0.0 +1.0;s2 +1.0;"};
        String[] wrong = {"s2;", "s2 +0.0;", "r0 +1.0;s2 +0.0;", "r0 +0.0 +1.0;s2 +1.0;"};
        for (String text : right) {
            int lines = text.split(";").length;
            due.is(text, Due.right(x, text), lines);
            due.is(text + " as by units", Due.right(x, text.replace("s2", "u")), lines);
        }
        for (String text : wrong) {
            int lines = text.split(";").length;
            due.is(text, Due.right(x, text), lines - 1);
            due.is(text + " as by units", Due.right(x, text.replace("s2", "u")), lines - 1);
        }
    }

    private static void eachSymbolThen() {
        due.sentence("or, if not, for each symbol that the cell may be then: "
                + "when it may be that alone something can't be");
        for (int symbols = 2; symbols <= 6; symbols++) {
            // each set of symbols of cell 0 that the lines ahead let come to nothing
            for (int ended = 0; ended < 1 << symbols; ended++) {
                ProofChecker x = Due.withNeverMet(2, 1, symbols);
                int ahead = 0;
                for (int symbol = 0; symbol < symbols; symbol++) {
                    if ((ended >> symbol & 1) == 1) {
                        ahead += Due.read(x, "r0 -0." + symbol + " +1.0;r0 -0." + symbol + " +1.1;");
                    }
                }
                boolean all = ended == (1 << symbols) - 1;
                splits(x, ahead, "s0", "", all);
                // what the line itself leaves to the cell: all but 0, or 1 alone
                splits(x, ahead, "s0", " +0.0", (ended | 1) == (1 << symbols) - 1);
                splits(x, ahead, "s0", " -0.1", (ended & 2) != 0);
                splits(x, ahead, "s1", "", all);
            }
        }
    }

    private static void splits(ProofChecker x, int ahead, String head, String literals, boolean right) {
        Due.read(x, head + literals + ";");
        due.is("behind " + ahead + " lines: " + head + literals, x.check(), right ? ahead + 1 : ahead);
        x.drop();
    }

    private static void goingOnFromThere() {
        due.sentence("by units going on from there.");
        ProofChecker x = Due.withNeverMet(4, 1, 2);
        // cell 0 is 0: steps to cells 1, 2, 3 and to nothing; cell 0 is 1: at once
        String steps = "r0 -2.0 +3.0;r0 -1.0 +2.0;r0 -0.0 +1.0;r0 -3.0 -1.0;";
        due.is("both", Due.right(x, steps + "r0 -0.1 +1.0;r0 -0.1 -1.0;s0;"), 7);
        due.is("the second does not", Due.right(x, steps + "r0 -0.1 +3.1;s0;"), 5);
        due.is("the first does not", Due.right(x, "r0 -0.0 +1.0;r0 -0.1 +1.0;r0 -0.1 -1.0;s0;"), 3);
        due.is("not what the first symbol came to",
                Due.right(x, "r0 -0.0 +1.0;r0 -0.0 +2.0;r0 -0.0 -2.0;r0 -0.1 -1.0;s0;"), 4);
        due.is("but what was there before both",
                Due.right(x, "r0 +1.0;r0 -0.0 +2.0;r0 -0.0 -2.0;r0 -0.1 -1.0;s0;"), 5);
        due.is("one cell is split, not two",
                Due.right(x, "r0 +0.0 +1.0 +2.0;r0 +0.0 +1.1 +2.0;r0 +0.1 +2.0;r0 -2.0 +3.0;r0 -2.0 +3.1;s0;"), 5);
    }

    // BARRED

    private static void answerIsWhole() {
        due.sentence("kind 3, BARRED: THE ANSWER is whole");
        for (int said = 0; said < 8; said++) {
            ProofChecker x = new ProofChecker(3, 1, 2);
            for (int cell = 0; cell < 3; cell++) {
                if ((said >> cell & 1) == 1) {
                    x.answer(cell, 1);
                }
            }
            due.is("said of " + said, Due.right(x, "b -0.1 -1.1 -2.1;"), said == 7 ? 1 : 0);
            due.is("said of " + said + ", no literals", Due.right(x, "b;"), 0);
        }
    }

    private static void answerMeetsAllRules() {
        due.sentence("and meets all rules");
        ProofChecker x = new ProofChecker(2, 1, 3);
        Due.answer(x, 1, 2);
        due.is("no rules", Due.right(x, "b -0.1 -1.2;"), 1);
        Due.rule(x, 2, 0, 0, 1);
        Due.rule(x, 1, 3, 0, 1);
        due.is("both", Due.right(x, "b -0.1 -1.2;"), 1);
        Due.answer(x, 2, 1);
        due.is("not the first", Due.right(x, "b -0.2 -1.1;"), 0);
        Due.answer(x, 0, 1);
        due.is("not the last", Due.right(x, "b -0.0 -1.1;"), 0);
        Due.answer(x, 1, 2);
        due.is("both again", Due.right(x, "b -0.1 -1.2;"), 1);
        x.rule(1, 1);
        due.is("not one without cells", Due.right(x, "b -0.1 -1.2;"), 0);
    }

    /** All answers of two cells, and all sets of their eight literals. */
    private static void oneForEachCell() {
        due.sentence("and the line has just one literal for each cell: that it is not what it is in THE ANSWER");
        for (int answer = 0; answer < 4; answer++) {
            List<Integer> wanted = List.of(2 * (answer / 2), 4 + 2 * (answer % 2));
            for (List<Integer> literals : upTo(8, 8)) {
                ProofChecker x = new ProofChecker(1, 2, 2);
                Due.answer(x, answer / 2, answer % 2);
                x.line(3, answer);
                for (int literal : literals) {
                    x.literal(literal / 4, literal / 2 % 2, literal % 2 == 1);
                }
                due.is("answer " + answer + ", literals " + literals, x.check(), literals.equals(wanted) ? 1 : 0);
            }
        }
    }

    private static void inAnyOrder() {
        due.sentence("(in any order).");
        for (int step = 1; step < 16; step += 2) {
            ProofChecker x = new ProofChecker(4, 4, 6);
            for (int cell = 0; cell < 16; cell++) {
                x.answer(cell, cell * cell % 6);
            }
            x.line(3, MAX);
            for (int n = 0; n < 16; n++) {
                int cell = (step * n + 7) % 16;
                due.is("literals " + n + ", by steps of " + step, x.check(), 0);
                x.literal(cell, cell * cell % 6, false);
            }
            due.is("sixteen literals, by steps of " + step, x.check(), 1);
        }
    }
}
