import java.util.Random;

/** All promises: many runs of calls of all kinds, each answer compared with the model's. */
public final class AgainstModelTest {
    private static final int RUNS = 1500;
    /** What an object answers to later calls is free. */
    private static final int MOST_CALLS = 512;
    private static final Due due = new Due();
    private static final int[] rights = new int[4];
    private static final int[] proofs = new int[3];

    private static int runsToTheEnd = 0;

    private static final class NoCallLeft extends RuntimeException {
    }

    private final Random random;
    private final ProofChecker x;
    private final Model model;
    private final int cells;
    private final int symbols;
    private final String name;
    private int calls = 0;

    private AgainstModelTest(int run) {
        random = new Random(run);
        int width = run % 50 == 0 ? between(-1, 6) : between(1, run % 3 == 0 ? 4 : 2);
        int height = run % 50 == 0 ? between(-1, 6) : between(1, run % 3 == 0 ? 4 : 2);
        int wanted = run % 50 == 0 ? between(-1, 8) : between(1, run % 3 == 0 ? 6 : 3);
        x = new ProofChecker(width, height, wanted);
        model = new Model(width, height, wanted);
        cells = Math.max(1, Math.min(4, width)) * Math.max(1, Math.min(4, height));
        symbols = Math.max(1, Math.min(6, wanted));
        name = "run " + run + " (" + width + ", " + height + ", " + wanted + ") ";
    }

    public static void main(String[] args) {
        for (int run = 0; run < RUNS; run++) {
            new AgainstModelTest(run).goWhileCallsAreLeft(run);
        }
        // runs in which nothing is ever right would compare nothing
        for (int kind = 0; kind < 4; kind++) {
            due.is("right lines of kind " + kind + " were seen", rights[kind] > 150, true);
        }
        for (int proof = 0; proof < 3; proof++) {
            due.is("proofs that answer " + proof + " were seen", proofs[proof] > 150, true);
        }
        due.is("runs of as many calls as there may be were seen", runsToTheEnd > 50, true);
        due.end();
    }

    private int between(int least, int most) {
        return least + random.nextInt(most - least + 1);
    }

    private boolean seldom() {
        return random.nextInt(40) == 0;
    }

    private int cell() {
        return seldom() ? between(-2, 18) : random.nextInt(cells);
    }

    private int symbol() {
        return seldom() ? between(-2, 8) : random.nextInt(symbols);
    }

    private void goWhileCallsAreLeft(int run) {
        try {
            go(run);
        } catch (NoCallLeft e) {
            runsToTheEnd++;
        }
    }

    private void go(int run) {
        int most = run % 10 == 0 ? MOST_CALLS : 150;
        int readiness = between(1, 4);
        boolean tidy = run % 4 != 0;
        for (int step = 0; calls < most && step < most; step++) {
            switch (random.nextInt(9 + readiness)) {
                case 0 -> makeRule();
                case 1 -> answers();
                case 2 -> asks();
                case 3 -> makeLine();
                case 4 -> tells();
                case 5 -> bars();
                case 6 -> same("drop()", x::drop, model::drop);
                case 7 -> reads();
                case 8 -> closes();
                default -> keepsIfRight();
            }
            if (tidy) {
                tidies();
            }
        }
        asks();
    }

    /** A wrong line makes all behind it wrong, so that most runs do not keep them. */
    private void tidies() {
        for (int right = model.check(); model.lines() > right;) {
            same("drop()", x::drop, model::drop);
        }
    }

    private Object same(String call, Due.Call own, Due.Call other) {
        if (calls == MOST_CALLS) {
            throw new NoCallLeft();
        }
        calls++;
        Object got = Due.outcome(own);
        due.is(name + "call " + calls + " " + call, got, Due.outcome(other));
        return got;
    }

    private void makeRule() {
        int kind = seldom() ? between(-1, 5) : random.nextInt(5);
        int number = seldom() ? between(-1, 101) : random.nextInt(6);
        Object made = same("rule", () -> x.rule(kind, number), () -> model.rule(kind, number));
        int size = random.nextInt(random.nextInt(4) == 0 ? 12 : 5);
        for (int n = 0; n < size; n++) {
            int rule = seldom() ? between(-1, 31) : (Integer) made;
            int cell = cell();
            same("into", () -> x.into(rule, cell), () -> model.into(rule, cell));
        }
    }

    private void answers() {
        boolean whole = random.nextBoolean();
        for (int n = 0; n < (whole ? cells : 1); n++) {
            int cell = whole ? n : cell();
            int symbol = random.nextInt(30) == 0 ? -1 : symbol();
            same("answer", () -> x.answer(cell, symbol), () -> model.answer(cell, symbol));
        }
    }

    private void asks() {
        int rule = between(-1, 10);
        int cell = cell();
        same("test", () -> x.test(rule), () -> model.test(rule));
        same("fails()", x::fails, model::fails);
        same("check()", x::check, model::check);
        proofs[(Integer) same("proves()", x::proves, model::proves)]++;
        same("may", () -> x.may(cell), () -> model.may(cell));
    }

    private int makeLine() {
        int kind = seldom() ? between(-1, 4) : random.nextInt(3);
        int number = seldom() ? random.nextInt() : random.nextInt(kind == 0 ? 6 : cells);
        Object made = same("line", () -> x.line(kind, number), () -> model.line(kind, number));
        int size = random.nextInt(seldom() ? 20 : 4);
        for (int n = 0; n < size; n++) {
            int cell = cell();
            int symbol = symbol();
            boolean is = random.nextBoolean();
            same("literal", () -> x.literal(cell, symbol, is), () -> model.literal(cell, symbol, is));
        }
        return (Integer) made;
    }

    /** Lines that are not right mostly go again, so that the proofs grow. */
    private void keepsIfRight() {
        int made = makeLine();
        int right = (Integer) same("check()", x::check, model::check);
        if (made >= 0 && right == made + 1) {
            rights[model.tell(made, 0)]++;
        } else if (made >= 0 && !seldom()) {
            same("drop()", x::drop, model::drop);
        }
    }

    /** Tries to end the proof with a line that has no literals. */
    private void closes() {
        int kind = random.nextInt(3);
        int number = random.nextInt(kind == 0 ? 6 : cells);
        same("line", () -> x.line(kind, number), () -> model.line(kind, number));
        Object proof = same("proves()", x::proves, model::proves);
        proofs[(Integer) proof]++;
        if ((Integer) proof == 0 || random.nextBoolean()) {
            same("drop()", x::drop, model::drop);
        }
    }

    private void bars() {
        Object made = same("line", () -> x.line(3, 0), () -> model.line(3, 0));
        int turn = random.nextInt(cells);
        for (int n = 0; n < cells; n++) {
            int cell = (n + turn) % cells;
            int symbol = symbol();
            same("answer", () -> x.answer(cell, symbol), () -> model.answer(cell, symbol));
            same("literal", () -> x.literal(cell, symbol, false), () -> model.literal(cell, symbol, false));
        }
        Object right = same("check()", x::check, model::check);
        if ((Integer) made >= 0 && (Integer) right == (Integer) made + 1) {
            rights[3]++;
        } else {
            same("drop()", x::drop, model::drop);
        }
    }

    private void tells() {
        int line = between(-1, 8);
        for (int n = 0; n < 3; n++) {
            int what = seldom() ? random.nextInt() : between(-1, 7);
            same("tell", () -> x.tell(line, what), () -> model.tell(line, what));
        }
    }

    private void reads() {
        StringBuilder text = new StringBuilder();
        int count = seldom() ? random.nextInt(62) : random.nextInt(3);
        for (int n = 0; n < count; n++) {
            writeLine(text, count > 5 ? 1 : seldom() ? 19 : 4);
        }
        if (text.length() > 0 && random.nextInt(3) == 0) {
            spoil(text);
        }
        for (int n = 0; n < text.length(); n++) {
            int u = text.charAt(n);
            same("unit", () -> x.unit(u), () -> model.unit(u));
        }
        same("read() of " + text, x::read, model::read);
    }

    private void writeLine(StringBuilder text, int literals) {
        char head = "rusb".charAt(random.nextInt(4));
        text.append(head);
        if (head == 'r' || head == 's') {
            text.append(random.nextInt(seldom() ? 120 : 8));
        }
        int size = random.nextInt(literals);
        for (int n = 0; n < size; n++) {
            text.append(random.nextBoolean() ? " +" : " -").append(Math.abs(cell()));
            text.append('.').append(Math.abs(symbol()));
        }
        text.append(';');
    }

    private void spoil(StringBuilder text) {
        int place = random.nextInt(text.length());
        char other = "rusb +-.;0123456789".charAt(random.nextInt(19));
        switch (random.nextInt(4)) {
            case 0 -> text.setLength(place);
            case 1 -> text.setCharAt(place, other);
            case 2 -> text.insert(place, other);
            default -> text.deleteCharAt(place);
        }
    }
}
