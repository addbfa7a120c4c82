/** Promises 7, 8, 9 and 12, and of the terms LITERAL and LINE: a test for each sentence with an edge. */
public final class EdgesOfLinesTest {
    private static final int MIN = Integer.MIN_VALUE;
    private static final int MAX = Integer.MAX_VALUE;
    private static final Due due = new Due();
    private static final Twins twins = new Twins(due);

    public static void main(String[] args) {
        lineKinds();
        lineNumbers();
        linesAtMost();
        lineWithoutLiterals();

        literalWithoutLine();
        literalToTheLastLine();
        literalTwice();
        literalsAtMost();
        literalOfNoCell();
        literalOfNoSymbol();

        dropOfTheLast();
        dropOfNone();

        tellOfOthers();
        tellOfLiterals();
        tellOfSixteen();
        tellOfNoLine();
        due.end();
    }

    // Promise 7

    private static void lineKinds() {
        due.sentence("Promise 7: -1 when kind is not 0 .. 3");
        ProofChecker x = new ProofChecker(2, 2, 2);
        for (int kind = 0; kind <= 3; kind++) {
            due.is("line(" + kind + ", 0)", x.line(kind, 0), kind);
            due.is("its kind", x.tell(kind, 0), kind);
        }
        for (int kind : Due.outside(0, 3)) {
            twins.refuse("line(" + kind + ", 0) as the first", -1, Twins::empty, y -> y.line(kind, 0));
            twins.refuse("line(" + kind + ", 1)", -1, Twins::some, y -> y.line(kind, 1));
            twins.refuse("line(" + kind + ", 0) as a 61st", -1, Twins::fullOfLines, y -> y.line(kind, 0));
            due.is("line(" + kind + ", 0)", x.line(kind, 0), -1);
        }
        due.is("the next line", x.line(0, 0), 4);
    }

    private static void lineNumbers() {
        due.sentence("Promise 7: A line comes: its number (any int may be the number that it is given)");
        int[] numbers = {MIN, MIN + 1, -65536, -256, -100, -2, -1, 0, 1, 59, 60, 99, 100, 255, 256, 65536,
            MAX - 1, MAX};
        for (int kind = 0; kind <= 3; kind++) {
            ProofChecker x = new ProofChecker(2, 2, 2);
            for (int n = 0; n < numbers.length; n++) {
                due.is("line(" + kind + ", " + numbers[n] + ")", x.line(kind, numbers[n]), n);
            }
            for (int n = 0; n < numbers.length; n++) {
                due.is("what was given to line " + n, x.tell(n, 1), numbers[n]);
                due.is("the kind of line " + n, x.tell(n, 0), kind);
            }
        }
    }

    private static void linesAtMost() {
        due.sentence("Promise 7: -1 when there are 60; Terms: lines are numbered from 0 on, at most 60");
        ProofChecker x = new ProofChecker(2, 2, 2);
        for (int line = 0; line < 60; line++) {
            due.is("line " + line, x.line(line % 4, line + 1), line);
        }
        due.is("a 61st", x.line(1, 0), -1);
        due.is("a 62nd", x.line(1, 0), -1);
        for (int line = 0; line < 60; line++) {
            due.is("the kind of line " + line, x.tell(line, 0), line % 4);
            due.is("the number of line " + line, x.tell(line, 1), line + 1);
        }
        due.isThrown("tell(60, 0)", Due.NO_INDEX, () -> x.tell(60, 0));
        due.is("drop()", x.drop(), true);
        due.is("a 60th again", x.line(1, 0), 59);
        due.is("a 61st again", x.line(1, 0), -1);
        for (int kind = 0; kind <= 3; kind++) {
            int taken = kind;
            twins.refuse("a 61st of kind " + kind, -1, Twins::fullOfLines, y -> y.line(taken, 7));
        }
    }

    private static void lineWithoutLiterals() {
        due.sentence("Promise 7: A line without literals comes behind the others");
        ProofChecker x = new ProofChecker(4, 4, 6);
        x.line(1, 0);
        x.literal(15, 5, true);
        x.line(2, 0);
        due.is("no literals at first", x.tell(1, 2), 0);
        due.is("the other line has its own", x.tell(0, 2), 1);
        x.literal(0, 0, true);
        x.literal(0, 1, true);
        x.drop();
        x.line(2, 0);
        due.is("no literals of a line that went", x.tell(1, 2), 0);
        due.is("nor is one told", x.tell(1, 3), -1);
    }

    // Promise 8

    private static void literalWithoutLine() {
        due.sentence("Promise 8: false when there is no line");
        for (int cell = 0; cell < Twins.CELLS; cell += Twins.CELLS - 1) {
            int taken = cell;
            twins.refuse("literal(" + cell + ", 2, true)", false, Twins::empty, y -> y.literal(taken, 2, true));
            twins.refuse("literal(" + cell + ", 0, false)", false, Twins::empty, y -> y.literal(taken, 0, false));
        }
        ProofChecker x = new ProofChecker(2, 2, 2);
        x.line(1, 0);
        due.is("there is a line", x.literal(0, 0, true), true);
        x.drop();
        due.is("it went", x.literal(0, 0, true), false);
        due.is("the next line", x.line(1, 0), 0);
        due.is("has no literals", x.tell(0, 2), 0);
        due.is("a literal of it", x.literal(0, 0, true), true);
    }

    private static void literalToTheLastLine() {
        due.sentence("Promise 8: A literal comes to the last line: true");
        ProofChecker x = new ProofChecker(2, 2, 2);
        for (int line = 0; line < 60; line++) {
            x.line(1, 0);
            due.is("literal of line " + line, x.literal(line % 4, 1, true), true);
        }
        for (int line = 0; line < 60; line++) {
            due.is("literals of line " + line, x.tell(line, 2), 1);
            due.is("the literal of line " + line, x.tell(line, 3), 2 * (2 * (line % 4) + 1) + 1);
        }
    }

    private static void literalTwice() {
        due.sentence("Promise 8: false when the line has it");
        ProofChecker x = new ProofChecker(4, 4, 6);
        x.line(1, 0);
        due.is("literal(2, 3, true)", x.literal(2, 3, true), true);
        due.is("of the cell before", x.literal(1, 3, true), true);
        due.is("of the cell behind", x.literal(3, 3, true), true);
        due.is("of the symbol before", x.literal(2, 2, true), true);
        due.is("of the symbol behind", x.literal(2, 4, true), true);
        due.is("that it is not", x.literal(2, 3, false), true);
        due.is("the first again", x.literal(2, 3, true), false);
        due.is("one in the midst again", x.literal(2, 2, true), false);
        due.is("the last again", x.literal(2, 3, false), false);
        due.is("how many there are", x.tell(0, 2), 6);
        x.line(1, 0);
        due.is("the same in the next line", x.literal(2, 3, true), true);
        x.drop();
        due.is("the line ahead still has it", x.literal(2, 3, true), false);
        twins.refuse("the first of the line again", false, Twins::some, y -> y.literal(5, 1, true));
        twins.refuse("the last of the line again", false, Twins::some, y -> y.literal(2, 2, false));
        twins.refuse("one of 16 again", false, Twins::fullOfLines, y -> y.literal(0, 0, true));
    }

    private static void literalsAtMost() {
        due.sentence("Promise 8: false when the line has 16; Terms: at most 16 literals each");
        for (int ahead : new int[] {0, 1, 58, 59}) {
            ProofChecker x = new ProofChecker(4, 4, 6);
            for (int line = 0; line <= ahead; line++) {
                x.line(1, 0);
            }
            for (int n = 0; n < 16; n++) {
                due.is("literal " + (n + 1) + " of line " + ahead, x.literal(15 - n, n % 6, n % 2 == 0), true);
            }
            due.is("a 17th", x.literal(0, 5, true), false);
            due.is("a 17th of a cell without literals ahead", x.literal(15, 5, false), false);
            due.is("how many there are", x.tell(ahead, 2), 16);
            due.is("the last of them", x.tell(ahead, 18), 2 * 3);
            if (ahead > 0) {
                due.is("the line ahead has none", x.tell(ahead - 1, 2), 0);
            }
            if (ahead < 59) {
                due.is("the next line", x.line(1, 0), ahead + 1);
                due.is("has none", x.tell(ahead + 1, 2), 0);
                due.is("and room", x.literal(0, 5, true), true);
            }
        }
        twins.refuse("a 17th that it is", false, Twins::fullOfLines, y -> y.literal(11, 2, true));
        twins.refuse("a 17th that it is not", false, Twins::fullOfLines, y -> y.literal(11, 0, false));
    }

    private static void literalOfNoCell() {
        due.sentence("Promise 8: ArrayIndexOutOfBoundsException: there is no such cell");
        for (int cell : Due.outside(0, 11)) {
            for (int symbol : new int[] {MIN, -1, 0, 2, 3, MAX}) {
                String name = "literal(" + cell + ", " + symbol + ", ..)";
                twins.refuse(name, Due.NO_INDEX, Twins::some, y -> y.literal(cell, symbol, true));
                twins.refuse(name, Due.NO_INDEX, Twins::some, y -> y.literal(cell, symbol, false));
            }
            twins.refuse("literal(" + cell + ", 0, true), 16", Due.NO_INDEX, Twins::fullOfLines,
                    y -> y.literal(cell, 0, true));
            twins.refuse("literal(" + cell + ", 0, true), no line", Due.NO_INDEX, Twins::empty,
                    y -> y.literal(cell, 0, true));
        }
        for (int[] size : new int[][] {{1, 1}, {1, 4}, {4, 1}, {3, 3}, {4, 4}}) {
            ProofChecker x = new ProofChecker(size[0], size[1], 2);
            int cells = size[0] * size[1];
            x.line(0, 0);
            due.is("the first of " + cells, x.literal(0, 1, true), true);
            due.is("the last of " + cells, x.literal(cells - 1, 1, false), true);
            due.isThrown("behind the last of " + cells, Due.NO_INDEX, () -> x.literal(cells, 1, true));
            due.isThrown("-1 of " + cells, Due.NO_INDEX, () -> x.literal(-1, 1, true));
        }
    }

    private static void literalOfNoSymbol() {
        due.sentence("Promise 8: IllegalArgumentException: there is no such symbol");
        for (int symbol : Due.outside(0, 2)) {
            String name = "literal(.., " + symbol + ", ..)";
            twins.refuse(name, Due.NO_ARGUMENT, Twins::some, y -> y.literal(0, symbol, true));
            twins.refuse(name, Due.NO_ARGUMENT, Twins::some, y -> y.literal(11, symbol, false));
            twins.refuse(name + ", 16", Due.NO_ARGUMENT, Twins::fullOfLines, y -> y.literal(0, symbol, true));
            twins.refuse(name + ", no line", Due.NO_ARGUMENT, Twins::empty, y -> y.literal(0, symbol, true));
        }
        for (int symbols = 1; symbols <= 6; symbols++) {
            ProofChecker x = new ProofChecker(1, 1, symbols);
            x.line(0, 0);
            due.is("the last of " + symbols, x.literal(0, symbols - 1, true), true);
            for (int symbol : Due.outside(0, symbols - 1)) {
                due.isThrown(symbol + " of " + symbols, Due.NO_ARGUMENT, () -> x.literal(0, symbol, true));
            }
        }
    }

    // Promise 9

    private static void dropOfTheLast() {
        due.sentence("Promise 9: The last line goes: true");
        ProofChecker x = new ProofChecker(2, 2, 2);
        for (int line = 0; line < 60; line++) {
            x.line(line % 4, line);
        }
        for (int line = 59; line >= 0; line--) {
            int last = line;
            due.is("line " + line + " is there", x.tell(line, 1), line);
            due.is("drop() of line " + line, x.drop(), true);
            due.isThrown("line " + line + " went", Due.NO_INDEX, () -> x.tell(last, 0));
        }
        due.is("drop() of none", x.drop(), false);
        due.is("the next line", x.line(0, 0), 0);
    }

    private static void dropOfNone() {
        due.sentence("Promise 9: false when there is none");
        twins.refuse("drop() at first", false, Twins::empty, y -> y.drop());
        twins.refuse("drop() twice", false, EdgesOfLinesTest::withBytes, y -> y.drop());
    }

    /** No line any more, but rules, an answer, and bytes. */
    private static ProofChecker withBytes() {
        ProofChecker x = Twins.some();
        x.drop();
        x.drop();
        return x;
    }

    // Promise 12

    private static void tellOfOthers() {
        due.sentence("Promise 12: 0 its kind, 1 its number, 2 how many literals; -1 for others");
        ProofChecker x = new ProofChecker(4, 3, 3);
        x.line(3, 44);
        due.is("its kind", x.tell(0, 0), 3);
        due.is("its number", x.tell(0, 1), 44);
        due.is("how many literals", x.tell(0, 2), 0);
        for (int what : Due.outside(0, 2)) {
            due.is("tell(0, " + what + ") without literals", x.tell(0, what), -1);
        }
        x.literal(11, 2, true);
        due.is("how many literals", x.tell(0, 2), 1);
        due.is("the literal", x.tell(0, 3), 71);
        for (int what : Due.outside(0, 3)) {
            due.is("tell(0, " + what + ") with one literal", x.tell(0, what), -1);
        }
        for (int what : Due.outside(0, 4)) {
            twins.refuse("tell(1, " + what + ")", -1, Twins::some, y -> y.tell(1, what));
        }
    }

    private static void tellOfLiterals() {
        due.sentence("Promise 12: 2 (S cell + symbol), and 1 when it says that it is");
        for (int symbols = 1; symbols <= 6; symbols++) {
            for (int cell = 0; cell < 16; cell++) {
                ProofChecker x = new ProofChecker(4, 4, symbols);
                x.line(0, 0);
                for (int symbol = 0; symbol < symbols; symbol++) {
                    x.literal(cell, symbol, true);
                    x.literal(cell, symbol, false);
                }
                for (int n = 0; n < 2 * symbols; n++) {
                    int want = 2 * (symbols * cell + n / 2) + (n % 2 == 0 ? 1 : 0);
                    due.is("cell " + cell + ", symbol " + n / 2 + " of " + symbols, x.tell(0, 3 + n), want);
                }
            }
        }
    }

    private static void tellOfSixteen() {
        due.sentence("Promise 12: 3, 4, .. its literals in the order in which they came");
        ProofChecker x = new ProofChecker(4, 4, 2);
        x.line(0, 0);
        for (int n = 0; n < 16; n++) {
            x.literal(15 - n, 1, n % 3 == 0);
        }
        // a line behind it, whose literals are not this one's
        x.line(0, 0);
        x.literal(3, 0, false);
        for (int n = 0; n < 16; n++) {
            due.is("literal " + n, x.tell(0, 3 + n), 2 * (2 * (15 - n) + 1) + (n % 3 == 0 ? 1 : 0));
        }
        for (int what : Due.outside(0, 18)) {
            due.is("tell(0, " + what + ") with 16 literals", x.tell(0, what), -1);
        }
    }

    private static void tellOfNoLine() {
        due.sentence("Promise 12: ArrayIndexOutOfBoundsException: there is no such line");
        for (int what : new int[] {MIN, -1, 0, 1, 2, 3, 99, MAX}) {
            for (int line : Due.outside(0, 1)) {
                String name = "tell(" + line + ", " + what + ") of two";
                twins.refuse(name, Due.NO_INDEX, Twins::some, y -> y.tell(line, what));
            }
            for (int line : new int[] {MIN, -1, 0, 1, 59, 60, MAX}) {
                String name = "tell(" + line + ", " + what + ") of none";
                twins.refuse(name, Due.NO_INDEX, Twins::empty, y -> y.tell(line, what));
            }
        }
        for (int line : Due.outside(0, 59)) {
            twins.refuse("tell(" + line + ", 0) of 60", Due.NO_INDEX, Twins::fullOfLines, y -> y.tell(line, 0));
        }
        due.is("tell(0, 0) of 60", Twins.fullOfLines().tell(0, 0), 0);
        due.is("tell(59, 0) of 60", Twins.fullOfLines().tell(59, 0), 1);
    }
}
