/** Promise 1. */
public final class NewObjectTest {
    private static final Due due = new Due();

    public static void main(String[] args) {
        sizes(1, 1, 1, 1, 1);
        sizes(4, 4, 6, 16, 6);
        sizes(2, 3, 4, 6, 4);
        sizes(0, -1, 0, 1, 1);
        sizes(5, 7, 7, 16, 6);
        sizes(Integer.MIN_VALUE, 3, Integer.MIN_VALUE, 3, 1);
        sizes(Integer.MAX_VALUE, 2, Integer.MAX_VALUE, 8, 6);
        sizes(3, Integer.MAX_VALUE, 2, 12, 2);
        sizes(3, Integer.MIN_VALUE, 2, 3, 2);
        empty();
        cellsAreNumberedByRows();
        due.end();
    }

    private static void sizes(int width, int height, int symbols, int cells, int most) {
        String name = "new ProofChecker(" + width + ", " + height + ", " + symbols + "): ";
        ProofChecker x = new ProofChecker(width, height, symbols);
        due.is(name + "answer in the last cell", x.answer(cells - 1, 0), true);
        due.isThrown(name + "answer behind it", Due.NO_INDEX, () -> x.answer(cells, 0));
        due.is(name + "answer of the last symbol", x.answer(0, most - 1), cells > 1 || most > 1);
        due.isThrown(name + "answer of one more", Due.NO_ARGUMENT, () -> x.answer(0, most));
        due.is(name + "may", x.may(0), (1 << most) - 1);
    }

    private static void empty() {
        ProofChecker x = new ProofChecker(2, 2, 2);
        due.is("fails() without rules", x.fails(), -1);
        due.is("check() without lines", x.check(), 0);
        due.is("proves() without lines", x.proves(), 0);
        due.is("drop() without lines", x.drop(), false);
        due.is("read() of nothing", x.read(), 0);
        due.is("answer(3, -1) at first", x.answer(3, -1), false);
    }

    private static void cellsAreNumberedByRows() {
        ProofChecker x = new ProofChecker(3, 2, 2);
        Due.rule(x, 4, 0, 0, 3);
        Due.rule(x, 4, 0, 2, 3);
        Due.rule(x, 4, 0, 0, 2);
        Due.rule(x, 4, 0, 4, 5);
        Due.answer(x, 1, 1, 1, 1, 1, 1);
        due.is("3 by 2: 3 is below 0", x.test(0), 1);
        due.is("3 by 2: 3 is not to the right of 2", x.test(1), 0);
        due.is("3 by 2: 2 is not below 0", x.test(2), 0);
        due.is("3 by 2: 5 is to the right of 4", x.test(3), 1);
    }
}
