/** Promises 7, 8, 9 and 12: lines, literals, drop and tell. */
public final class LinesTest {
    private static final Due due = new Due();

    public static void main(String[] args) {
        line();
        literal();
        drop();
        tell();
        due.end();
    }

    private static void line() {
        ProofChecker x = new ProofChecker(2, 2, 2);
        due.is("line(-1, 0)", x.line(-1, 0), -1);
        due.is("line(4, 0)", x.line(4, 0), -1);
        due.is("line(MAX, 0)", x.line(Integer.MAX_VALUE, 0), -1);
        for (int n = 0; n < 60; n++) {
            due.is("line number " + n, x.line(n % 4, n), n);
        }
        due.is("a 61st line", x.line(0, 0), -1);
        due.is("literal of the 60th line", x.literal(3, 1, true), true);
        due.is("tell(59, 2)", x.tell(59, 2), 1);
        due.isThrown("tell(60, 0)", Due.NO_INDEX, () -> x.tell(60, 0));
        x.drop();
        due.is("a line where one went", x.line(1, 0), 59);
        due.is("it has no literals", x.tell(59, 2), 0);
    }

    private static void literal() {
        ProofChecker x = new ProofChecker(3, 3, 3);
        due.is("literal without lines", x.literal(0, 0, true), false);
        due.isThrown("literal(9, 0, true) without lines", Due.NO_INDEX, () -> x.literal(9, 0, true));
        due.isThrown("literal(0, 3, true) without lines", Due.NO_ARGUMENT, () -> x.literal(0, 3, true));
        x.line(1, 0);
        due.is("literal(8, 2, true)", x.literal(8, 2, true), true);
        due.is("literal(8, 2, true) again", x.literal(8, 2, true), false);
        due.is("literal(8, 2, false)", x.literal(8, 2, false), true);
        due.isThrown("literal(9, 0, false)", Due.NO_INDEX, () -> x.literal(9, 0, false));
        due.isThrown("literal(-1, 0, false)", Due.NO_INDEX, () -> x.literal(-1, 0, false));
        due.isThrown("literal(0, 3, false)", Due.NO_ARGUMENT, () -> x.literal(0, 3, false));
        due.isThrown("literal(0, -1, false)", Due.NO_ARGUMENT, () -> x.literal(0, -1, false));
        due.isThrown("literal(9, 3, false)", Due.NO_INDEX, () -> x.literal(9, 3, false));
        x.line(1, 0);
        due.is("literal(8, 2, true) of the next line", x.literal(8, 2, true), true);
        for (int n = 1; n < 16; n++) {
            due.is("literal " + n, x.literal(n / 3, n % 3, false), true);
        }
        due.is("a 17th literal", x.literal(7, 0, false), false);
        due.isThrown("no cell, and 16", Due.NO_INDEX, () -> x.literal(9, 0, false));
        due.isThrown("no symbol, and 16", Due.NO_ARGUMENT, () -> x.literal(0, 3, false));
        due.is("how many there are", x.tell(1, 2), 16);
        due.is("how many the line ahead has", x.tell(0, 2), 2);
    }

    private static void drop() {
        ProofChecker x = new ProofChecker(2, 1, 2);
        due.is("drop() without lines", x.drop(), false);
        x.line(0, 5);
        x.literal(1, 1, true);
        x.line(1, 6);
        due.is("drop()", x.drop(), true);
        due.isThrown("tell of what went", Due.NO_INDEX, () -> x.tell(1, 0));
        due.is("literals come to the line ahead again", x.literal(0, 1, true), true);
        due.is("tell(0, 4)", x.tell(0, 4), 3);
        due.is("drop() of the first", x.drop(), true);
        due.is("drop() of none", x.drop(), false);
        due.is("line behind none", x.line(2, 0), 0);
    }

    private static void tell() {
        ProofChecker x = new ProofChecker(4, 4, 6);
        due.isThrown("tell(0, 0) without lines", Due.NO_INDEX, () -> x.tell(0, 0));
        x.line(0, Integer.MIN_VALUE);
        x.line(3, 77);
        x.literal(15, 5, true);
        x.literal(0, 0, false);
        x.literal(2, 3, false);
        due.is("tell(0, 0)", x.tell(0, 0), 0);
        due.is("tell(0, 1)", x.tell(0, 1), Integer.MIN_VALUE);
        due.is("tell(0, 2)", x.tell(0, 2), 0);
        due.is("tell(0, 3)", x.tell(0, 3), -1);
        due.is("tell(1, 0)", x.tell(1, 0), 3);
        due.is("tell(1, 1)", x.tell(1, 1), 77);
        due.is("tell(1, 2)", x.tell(1, 2), 3);
        due.is("tell(1, 3)", x.tell(1, 3), 191);
        due.is("tell(1, 4)", x.tell(1, 4), 0);
        due.is("tell(1, 5)", x.tell(1, 5), 30);
        due.is("tell(1, 6)", x.tell(1, 6), -1);
        due.is("tell(1, -1)", x.tell(1, -1), -1);
        due.is("tell(1, MIN)", x.tell(1, Integer.MIN_VALUE), -1);
        due.is("tell(1, MAX)", x.tell(1, Integer.MAX_VALUE), -1);
        due.isThrown("tell(2, 0)", Due.NO_INDEX, () -> x.tell(2, 0));
        due.isThrown("tell(-1, 0)", Due.NO_INDEX, () -> x.tell(-1, 0));
        due.isThrown("tell(2, -1)", Due.NO_INDEX, () -> x.tell(2, -1));
    }
}
