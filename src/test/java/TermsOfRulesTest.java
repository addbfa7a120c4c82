import java.util.Arrays;
import java.util.function.Predicate;

/** The terms from THE GRID to WHOLE: a test for each sentence, in the document's words and order. */
public final class TermsOfRulesTest {
    private static final Due due = new Due();

    public static void main(String[] args) {
        cells();
        cellsByRows();
        next();
        symbols();
        rulesHaveKindAndNumber();
        cellsOnce();
        cellsInOrder();
        numbered();
        atMostNineCells();

        unlike();
        addUp();
        greater();
        justAsMany();
        itselfCounted();
        hangTogether();
        byCellsOfTheRule();
        noneOrOne();
        withoutCells();

        answerOfSome();
        whole();
        due.end();
    }

    // THE GRID

    private static void cells() {
        due.sentence("THE GRID has W by H CELLS");
        for (int width = 1; width <= 4; width++) {
            for (int height = 1; height <= 4; height++) {
                ProofChecker x = new ProofChecker(width, height, 2);
                String name = width + " by " + height;
                int cells = width * height;
                for (int cell = 0; cell < cells; cell++) {
                    due.is(name + ": may", x.may(cell), 3);
                }
                x.line(1, 0);
                for (int cell = 0; cell < cells; cell++) {
                    due.is(name + ": into", x.into(x.rule(0, 0), cell), true);
                    due.is(name + ": answer", x.answer(cell, 1), true);
                    due.is(name + ": literal", x.literal(cell, 1, true), true);
                    due.is(name + ": read", Due.read(x, "u +" + cell + ".0 +" + cell + ".1;"), 1);
                    x.drop();
                }
                for (int cell : new int[] {-1, cells, cells + 1, 99}) {
                    due.isThrown(name + ": into " + cell, Due.NO_INDEX, () -> x.into(0, cell));
                    due.isThrown(name + ": answer " + cell, Due.NO_INDEX, () -> x.answer(cell, 1));
                    due.isThrown(name + ": literal " + cell, Due.NO_INDEX, () -> x.literal(cell, 1, true));
                    due.isThrown(name + ": may " + cell, Due.NO_INDEX, () -> x.may(cell));
                }
                due.is(name + ": read", Due.read(x, "u +" + cells + ".0;") < 0, true);
            }
        }
    }

    /** Whether two cells, both with symbol 1, hang together. */
    private static int isNext(int width, int height, int a, int b) {
        ProofChecker x = new ProofChecker(width, height, 2);
        Due.rule(x, 4, 0, a, b);
        x.answer(a, 1);
        x.answer(b, 1);
        return x.test(0);
    }

    private static void cellsByRows() {
        due.sentence("(x, y) is cell W y + x");
        due.is("4 by 2: (3, 0) and (3, 1)", isNext(4, 2, 3, 7), 1);
        due.is("4 by 2: (1, 1) and (2, 1)", isNext(4, 2, 5, 6), 1);
        due.is("4 by 2: (0, 0) and (2, 0)", isNext(4, 2, 0, 2), 0);
        due.is("2 by 4: (0, 0) and (0, 1)", isNext(2, 4, 0, 2), 1);
        due.is("2 by 4: (0, 0) and (0, 2)", isNext(2, 4, 0, 4), 0);
        due.is("2 by 4: (1, 1) and (0, 2)", isNext(2, 4, 3, 4), 0);
        due.is("1 by 4: (0, 2) and (0, 3)", isNext(1, 4, 2, 3), 1);
        due.is("3 by 3: (1, 1) and (1, 2)", isNext(3, 3, 4, 7), 1);
    }

    private static void next() {
        due.sentence("NEXT to it are those above, to the right, below, to the left");
        // of each cell of a 4 by 4 and of a 3 by 2 grid, those next to it
        int[][] large = {{1, 4}, {0, 2, 5}, {1, 3, 6}, {2, 7}, {0, 5, 8}, {1, 4, 6, 9}, {2, 5, 7, 10}, {3, 6, 11},
            {4, 9, 12}, {5, 8, 10, 13}, {6, 9, 11, 14}, {7, 10, 15}, {8, 13}, {9, 12, 14}, {10, 13, 15}, {11, 14}};
        int[][] small = {{1, 3}, {0, 2, 4}, {1, 5}, {0, 4}, {1, 3, 5}, {2, 4}};
        allNext(4, 4, large);
        allNext(3, 2, small);
        allNext(4, 1, new int[][] {{1}, {0, 2}, {1, 3}, {2}});
        allNext(1, 4, new int[][] {{1}, {0, 2}, {1, 3}, {2}});
    }

    private static void allNext(int width, int height, int[][] next) {
        for (int a = 0; a < next.length; a++) {
            for (int b = 0; b < next.length; b++) {
                int other = b;
                int want = (int) Arrays.stream(next[a]).filter(cell -> cell == other).count();
                if (a != b) {
                    due.is(width + " by " + height + ": " + a + " and " + b, isNext(width, height, a, b), want);
                }
            }
        }
    }

    private static void symbols() {
        due.sentence("Each cell has one of the SYMBOLS 0 .. S - 1.");
        for (int symbols = 1; symbols <= 6; symbols++) {
            ProofChecker x = new ProofChecker(2, 1, symbols);
            String name = "of " + symbols + " symbols ";
            due.is(name + "all may be", x.may(1), (1 << symbols) - 1);
            due.is(name + "one it must be", isOneOfAll(x, symbols), 1);
            Due.line(x, 1, 0, "");
            for (int symbol = 0; symbol < symbols; symbol++) {
                due.is(name + symbol + " answer", x.answer(1, symbol), true);
                due.is(name + symbol + " literal", x.literal(1, symbol, true), true);
            }
            for (int symbol : new int[] {-2, symbols, symbols + 1, 99}) {
                due.isThrown(name + symbol + " answer", Due.NO_ARGUMENT, () -> x.answer(1, symbol));
                due.isThrown(name + symbol + " literal", Due.NO_ARGUMENT, () -> x.literal(1, symbol, true));
            }
            due.isThrown(name + "-1 literal", Due.NO_ARGUMENT, () -> x.literal(1, -1, true));
            due.is(name + "read of the last", Due.read(x, "u +1." + (symbols - 1) + ";"), 1);
            due.is(name + "read of one more", Due.read(x, "u +1." + symbols + ";"), -6);
        }
    }

    /** Whether it is right that a cell is one of all symbols. */
    private static int isOneOfAll(ProofChecker x, int symbols) {
        StringBuilder literals = new StringBuilder();
        for (int symbol = 0; symbol < symbols; symbol++) {
            literals.append(" +1.").append(symbol);
        }
        return Due.right(x, "u" + literals + ";");
    }

    // RULES

    private static void rulesHaveKindAndNumber() {
        due.sentence("RULES have a kind, a number, and cells");
        ProofChecker x = new ProofChecker(3, 1, 3);
        for (int kind = 0; kind <= 4; kind++) {
            Due.rule(x, kind, 3, 0, 1, 2);
            Due.rule(x, kind, 1, 0, 1, 2);
        }
        Due.rule(x, 0, 0, 0, 1);
        // for each answer what is due of the rules: kind 0 (3, 1), kind 1 (3, 1), .. and the last one
        tests(x, new int[] {0, 1, 2}, 1, 1, 1, 0, 1, 1, 0, 1, 1, 1, 1);
        tests(x, new int[] {1, 0, 1}, 0, 0, 0, 0, 0, 0, 0, 0, 0, 0, 1);
        tests(x, new int[] {1, 1, 1}, 0, 0, 1, 0, 0, 0, 1, 0, 1, 1, 0);
        tests(x, new int[] {1, 0, 0}, 0, 0, 0, 1, 0, 0, 0, 1, 1, 1, 1);
    }

    private static void tests(ProofChecker x, int[] answer, int... dues) {
        Due.answer(x, answer);
        for (int rule = 0; rule < dues.length; rule++) {
            due.is(Arrays.toString(answer) + ": test(" + rule + ")", x.test(rule), dues[rule]);
        }
    }

    private static void cellsOnce() {
        due.sentence("cells (each once ..)");
        ProofChecker x = new ProofChecker(2, 1, 4);
        x.rule(1, 3);
        x.answer(0, 3);
        due.is("a cell", x.into(0, 0), true);
        due.is("it adds up", x.test(0), 1);
        due.is("the cell again", x.into(0, 0), false);
        due.is("it is not counted twice", x.test(0), 1);
        due.is("another rule has cells of its own", x.into(x.rule(1, 0), 0), true);
        due.is("another cell", x.into(0, 1), true);
        due.is("the first again", x.into(0, 0), false);
        due.is("the last again", x.into(0, 1), false);
    }

    private static void cellsInOrder() {
        due.sentence("cells (.. in the order in which they came)");
        int[][] orders = {{0, 1, 2}, {0, 2, 1}, {1, 0, 2}, {1, 2, 0}, {2, 0, 1}, {2, 1, 0}};
        for (int[] order : orders) {
            ProofChecker x = new ProofChecker(3, 1, 3);
            Due.rule(x, 2, 0, order);
            for (int[] other : orders) {
                for (int n = 0; n < 3; n++) {
                    x.answer(other[n], n);
                }
                due.is(Arrays.toString(order) + " filled by " + Arrays.toString(other), x.test(0),
                        order == other ? 1 : 0);
            }
        }
    }

    private static void numbered() {
        due.sentence("numbered from 0 on, at most 30");
        ProofChecker x = new ProofChecker(1, 1, 6);
        x.answer(0, 5);
        for (int rule = 0; rule < 30; rule++) {
            int next = rule;
            due.isThrown("test(" + rule + ") before", Due.NO_INDEX, () -> x.test(next));
            due.is("rule " + rule, x.rule(1, rule % 3 == 0 ? 5 : 4), rule);
            due.is("into(" + rule + ", 0)", x.into(rule, 0), true);
        }
        for (int rule = 0; rule < 30; rule++) {
            due.is("test(" + rule + ")", x.test(rule), rule % 3 == 0 ? 1 : 0);
        }
        due.is("a 31st", x.rule(1, 5), -1);
        due.isThrown("test(30)", Due.NO_INDEX, () -> x.test(30));
        due.isThrown("test(-1)", Due.NO_INDEX, () -> x.test(-1));
    }

    private static void atMostNineCells() {
        due.sentence("at most 9 cells each");
        ProofChecker x = new ProofChecker(4, 4, 2);
        for (int cell = 0; cell < 16; cell++) {
            x.answer(cell, 1);
        }
        for (int rule = 0; rule < 3; rule++) {
            x.rule(1, 9);
            for (int n = 0; n < 16; n++) {
                due.is("cell " + (n + 1) + " of rule " + rule, x.into(rule, (n + 5 * rule) % 16), n < 9);
                due.is("test of rule " + rule + " then", x.test(rule), n < 8 ? 0 : 1);
            }
        }
    }

    // MEETS

    /** Looks at each way to fill a rule's cells, which came in the order 2 0 1, with three symbols. */
    private static void eachWay(int kind, int number, Predicate<int[]> meets) {
        ProofChecker x = new ProofChecker(3, 1, 3);
        Due.rule(x, kind, number, 2, 0, 1);
        for (int way = 0; way < 27; way++) {
            int[] filled = {way / 9, way / 3 % 3, way % 3};
            x.answer(2, filled[0]);
            x.answer(0, filled[1]);
            x.answer(1, filled[2]);
            due.is("kind " + kind + ", number " + number + ", " + Arrays.toString(filled), x.test(0),
                    meets.test(filled) ? 1 : 0);
        }
    }

    private static int tested(int kind, int number, int... symbols) {
        ProofChecker x = new ProofChecker(3, 3, 6);
        x.rule(kind, number);
        for (int cell = 0; cell < symbols.length; cell++) {
            x.into(0, cell);
            x.answer(cell, symbols[cell]);
        }
        return x.test(0);
    }

    private static void unlike() {
        due.sentence("A way to fill its cells MEETS a rule of kind 0 when all are unlike");
        for (int number : new int[] {0, 1, 3, 99}) {
            eachWay(0, number, way -> way[0] != way[1] && way[0] != way[2] && way[1] != way[2]);
        }
        due.is("one cell", tested(0, 0, 5), 1);
        due.is("six cells", tested(0, 0, 3, 5, 0, 1, 4, 2), 1);
        due.is("seven cells", tested(0, 0, 3, 5, 0, 1, 4, 2, 3), 0);
    }

    private static void addUp() {
        due.sentence("1 when the symbols add up to its number");
        for (int number = 0; number <= 7; number++) {
            int sum = number;
            eachWay(1, number, way -> way[0] + way[1] + way[2] == sum);
        }
        due.is("one cell", tested(1, 5, 5), 1);
        due.is("nine cells", tested(1, 45, 5, 5, 5, 5, 5, 5, 5, 5, 5), 1);
        due.is("nine cells, one less", tested(1, 45, 5, 5, 5, 5, 4, 5, 5, 5, 5), 0);
        due.is("what can't be", tested(1, 99, 5, 5, 5, 5, 5, 5, 5, 5, 5), 0);
    }

    private static void greater() {
        due.sentence("2 when each is greater than the one before");
        for (int number : new int[] {0, 1, 99}) {
            eachWay(2, number, way -> way[0] < way[1] && way[1] < way[2]);
        }
        due.is("one cell", tested(2, 0, 0), 1);
        due.is("six cells", tested(2, 0, 0, 1, 2, 3, 4, 5), 1);
        due.is("six cells, two alike", tested(2, 0, 0, 1, 2, 3, 5, 5), 0);
        due.is("six cells, the first too great", tested(2, 0, 2, 1, 2, 3, 4, 5), 0);
    }

    private static void justAsMany() {
        due.sentence("3 when just as many cells as its number have the symbol of the first one");
        for (int number = 0; number <= 4; number++) {
            int wanted = number;
            eachWay(3, number, way -> Arrays.stream(way).filter(symbol -> symbol == way[0]).count() == wanted);
        }
        due.is("nine of nine", tested(3, 9, 4, 4, 4, 4, 4, 4, 4, 4, 4), 1);
        due.is("eight of nine", tested(3, 9, 4, 4, 4, 4, 4, 4, 4, 4, 0), 0);
        due.is("of the first, not of another", tested(3, 3, 4, 0, 0, 0), 0);
    }

    private static void itselfCounted() {
        due.sentence("(itself counted)");
        due.is("one cell, number 0", tested(3, 0, 2), 0);
        due.is("one cell, number 1", tested(3, 1, 2), 1);
        due.is("the first alone of three, number 0", tested(3, 0, 2, 0, 1), 0);
        due.is("the first alone of three, number 1", tested(3, 1, 2, 0, 1), 1);
    }

    private static void hangTogether() {
        due.sentence("4 when all its cells that have symbol 1 hang together");
        for (int way = 0; way < 512; way++) {
            int[] symbols = new int[9];
            for (int cell = 0; cell < 9; cell++) {
                symbols[cell] = (way >> cell & 1) == 1 ? 1 : 5 * (cell % 2);
            }
            due.is(Arrays.toString(symbols), tested(4, 0, symbols), pieces(symbols) <= 1 ? 1 : 0);
        }
        for (int number : new int[] {1, 2, 99}) {
            due.is("its number says nothing: " + number, tested(4, number, 1, 1, 0, 1), 1);
            due.is("its number says nothing: " + number, tested(4, number, 1, 0, 1), 0);
        }
    }

    /** In how many pieces the cells with symbol 1 of a 3 by 3 grid lie. */
    private static int pieces(int[] symbols) {
        int[] left = symbols.clone();
        int pieces = 0;
        for (int cell = 0; cell < 9; cell++) {
            if (left[cell] == 1) {
                pieces++;
                takePiece(left, cell % 3, cell / 3);
            }
        }
        return pieces;
    }

    private static void takePiece(int[] left, int x, int y) {
        if (x >= 0 && x < 3 && y >= 0 && y < 3 && left[3 * y + x] == 1) {
            left[3 * y + x] = 0;
            takePiece(left, x, y - 1);
            takePiece(left, x + 1, y);
            takePiece(left, x, y + 1);
            takePiece(left, x - 1, y);
        }
    }

    private static void byCellsOfTheRule() {
        due.sentence("by cells of the rule next to each other that have symbol 1");
        ProofChecker x = new ProofChecker(3, 2, 3);
        Due.rule(x, 4, 0, 0, 2);
        Due.rule(x, 4, 0, 0, 1, 2);
        Due.rule(x, 4, 0, 0, 2, 3, 4, 5);
        Due.rule(x, 4, 0, 1, 5);
        Due.rule(x, 4, 0, 5, 1, 2);
        tests(x, new int[] {1, 1, 1, 1, 1, 1}, 0, 1, 1, 0, 1);
        tests(x, new int[] {1, 2, 1, 1, 1, 1}, 0, 0, 1, 1, 1);
        tests(x, new int[] {1, 0, 1, 1, 2, 1}, 0, 0, 0, 1, 1);
        tests(x, new int[] {0, 1, 0, 1, 0, 1}, 1, 1, 0, 0, 0);
    }

    private static void noneOrOne() {
        due.sentence("(or none has it, or one)");
        ProofChecker x = new ProofChecker(3, 1, 3);
        Due.rule(x, 4, 0, 0, 2);
        Due.rule(x, 4, 0, 1);
        tests(x, new int[] {0, 1, 0}, 1, 1);
        tests(x, new int[] {2, 0, 2}, 1, 1);
        tests(x, new int[] {1, 0, 2}, 1, 1);
        tests(x, new int[] {0, 2, 1}, 1, 1);
        tests(x, new int[] {1, 2, 1}, 0, 1);
    }

    private static void withoutCells() {
        due.sentence("A rule without cells is met, but of kind 1 only when its number is 0 (of kind 3 always).");
        for (int number : new int[] {0, 1, 2, 9, 10, 98, 99}) {
            for (int kind = 0; kind <= 4; kind++) {
                ProofChecker x = new ProofChecker(2, 2, 2);
                x.rule(kind, number);
                int want = kind == 1 && number > 0 ? 0 : 1;
                String name = "kind " + kind + ", number " + number;
                due.is(name + ", test", x.test(0), want);
                due.is(name + ", fails", x.fails(), want == 1 ? -1 : 0);
                due.is(name + ", by rule", Due.right(x, "r0;"), 1 - want);
                due.is(name + ", with a cell", x.into(0, 0), true);
                due.is(name + ", with a cell of which nothing is said", x.test(0), -1);
            }
        }
    }

    // THE ANSWER

    private static void answerOfSome() {
        due.sentence("THE ANSWER says of some cells which symbol they have");
        ProofChecker x = new ProofChecker(2, 2, 3);
        for (int cell = 0; cell < 4; cell++) {
            Due.rule(x, 1, 2, cell);
            due.is("nothing of cell " + cell, x.test(cell), -1);
        }
        x.answer(2, 2);
        due.is("of cell 2", x.test(2), 1);
        due.is("nothing of cell 1", x.test(1), -1);
        due.is("nothing of cell 3", x.test(3), -1);
        x.answer(2, 0);
        due.is("another symbol of cell 2", x.test(2), 0);
        x.answer(2, -1);
        due.is("nothing of cell 2 any more", x.test(2), -1);
        due.isThrown("of no cell", Due.NO_INDEX, () -> x.answer(4, 0));
        due.isThrown("no symbol", Due.NO_ARGUMENT, () -> x.answer(3, 3));
        due.is("nothing of cell 3 still", x.test(3), -1);
    }

    private static void whole() {
        due.sentence("it is WHOLE when of all.");
        for (int unsaid = 0; unsaid < 4; unsaid++) {
            ProofChecker x = new ProofChecker(2, 2, 2);
            Due.answer(x, 0, 1, 1, 0);
            due.is("of all", Due.right(x, "b -0.0 -1.1 -2.1 -3.0;"), 1);
            x.answer(unsaid, -1);
            due.is("not of " + unsaid, Due.right(x, "b -0.0 -1.1 -2.1 -3.0;"), 0);
            Due.answer(x, 0, 1, 1, 0);
            due.is("of all again", Due.right(x, "b -0.0 -1.1 -2.1 -3.0;"), 1);
        }
    }
}
