import java.util.ArrayList;
import java.util.Collections;
import java.util.List;
import java.util.Random;

/**
 * What it is: whole proofs, "that there is no answer, or none but one". Whether there is one is found by
 * trying each filling of the grid; the proof goes down a tree of splits to each filling, which a rule
 * bars, or the BARRED line.
 */
public final class WholeProofsTest {
    private static final int RUNS = 2000;
    private static final Due due = new Due();
    /** How many runs had no answer, one, or more. */
    private static final int[] seen = new int[3];

    private final Random random;
    private final String name;
    private final int symbols;
    private final ProofChecker x;
    private final Model model;
    private final List<Integer> order = new ArrayList<>();
    private final List<int[]> answers = new ArrayList<>();
    private int rules = 0;

    private WholeProofsTest(int run) {
        random = new Random(run);
        name = "run " + run + ": ";
        symbols = 2 + run % 2;
        // the tree's lines are as many as its knots: 31 of four cells with two symbols, 40 of three with three
        int[][] sizes = symbols == 2 ? new int[][] {{2, 2}, {4, 1}, {1, 4}} : new int[][] {{3, 1}, {1, 3}, {2, 1}};
        int[] size = sizes[random.nextInt(3)];
        x = new ProofChecker(size[0], size[1], symbols);
        model = new Model(size[0], size[1], symbols);
        for (int cell = 0; cell < size[0] * size[1]; cell++) {
            order.add(cell);
        }
        Collections.shuffle(order, random);
    }

    public static void main(String[] args) {
        for (int run = 0; run < RUNS; run++) {
            new WholeProofsTest(run).go();
        }
        for (int n = 0; n < seen.length; n++) {
            due.is("enough runs with " + n + " answers (2: or more)", seen[n] > 60, true);
        }
        due.end();
    }

    private void go() {
        makeRules();
        findAnswers();
        testAnswers();
        seen[Math.min(2, answers.size())]++;
        if (!answers.isEmpty()) {
            bar(answers.get(0));
        }
        if (answers.size() > 1) {
            nothingBars(answers.get(1));
        }
        prove(new int[order.size()], 0);
        int lines = x.line(1, 0) + 1;
        if (answers.size() < 2) {
            due.is(name + "check()", x.check(), lines);
            due.is(name + "proves()", x.proves(), 1 + answers.size());
        } else {
            due.is(name + "check() of more answers", x.check() < lines, true);
            due.is(name + "proves() of more answers", x.proves(), 0);
        }
    }

    private void makeRules() {
        rules = 1 + random.nextInt(6);
        for (int rule = 0; rule < rules; rule++) {
            int kind = random.nextInt(5);
            int number = kind == 1 ? random.nextInt(4) : 1 + random.nextInt(2);
            x.rule(kind, number);
            model.rule(kind, number);
            List<Integer> cells = new ArrayList<>(order);
            Collections.shuffle(cells, random);
            for (int cell : cells.subList(0, 1 + random.nextInt(cells.size()))) {
                x.into(rule, cell);
                model.into(rule, cell);
            }
        }
    }

    private void findAnswers() {
        int ways = (int) Math.pow(symbols, order.size());
        for (int way = 0; way < ways; way++) {
            int[] filled = new int[order.size()];
            int rest = way;
            for (int cell = 0; cell < filled.length; cell++) {
                filled[cell] = rest % symbols;
                rest /= symbols;
                model.answer(cell, filled[cell]);
            }
            if (model.fails() == -1) {
                answers.add(filled);
            }
        }
    }

    /** Rules tested on an answer. */
    private void testAnswers() {
        for (int n = 0; n < Math.min(5, answers.size()); n++) {
            Due.answer(x, answers.get(n));
            due.is(name + "fails() of an answer", x.fails(), -1);
        }
    }

    private void bar(int[] answer) {
        Due.answer(x, answer);
        x.line(3, 0);
        for (int cell : order) {
            x.literal(cell, answer[cell], false);
        }
    }

    /** No line of any kind that says that it is not another answer is right behind the BARRED one. */
    private void nothingBars(int[] answer) {
        for (int kind = 0; kind < 4; kind++) {
            int numbers = kind == 0 ? rules : kind == 2 ? answer.length : 1;
            for (int number = 0; number < numbers; number++) {
                x.line(kind, number);
                deny(answer, answer.length);
                due.is(name + "another answer barred by kind " + kind + ", number " + number, x.check(), 1);
                x.drop();
            }
        }
    }

    /** Lines that say that the first cells of the order are not all filled so. */
    private void prove(int[] filled, int depth) {
        if (depth == order.size()) {
            proveFilling(filled);
            return;
        }
        for (int symbol = 0; symbol < symbols; symbol++) {
            filled[order.get(depth)] = symbol;
            prove(filled, depth + 1);
        }
        // the last cell needs no split: the lines of its symbols leave it none
        x.line(depth == order.size() - 1 ? 1 : 2, order.get(depth));
        deny(filled, depth);
    }

    private void deny(int[] filled, int depth) {
        for (int cell : order.subList(0, depth)) {
            x.literal(cell, filled[cell], false);
        }
    }

    private void proveFilling(int[] filled) {
        for (int cell = 0; cell < filled.length; cell++) {
            model.answer(cell, filled[cell]);
        }
        // a filling that meets all rules is barred already, or nothing bars it
        x.line(model.fails() == -1 ? 1 : 0, Math.max(0, model.fails()));
        deny(filled, filled.length);
    }
}
