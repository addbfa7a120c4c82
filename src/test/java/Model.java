import java.util.ArrayList;
import java.util.Arrays;
import java.util.BitSet;
import java.util.HashSet;
import java.util.List;
import java.util.Set;
import java.util.function.Predicate;
import java.util.regex.Matcher;
import java.util.regex.Pattern;

/**
 * The document once more, written straight from its words with sets and lists and without a thought
 * for speed; the class is compared with it.
 */
final class Model {
    private static final Pattern ALL_LINES =
            Pattern.compile("((u|b|[rs](0|[1-9][0-9]?))( [+-](0|[1-9][0-9]?)[.](0|[1-9][0-9]?))*;)*");
    private static final Pattern PIECE = Pattern.compile("[rs](0|[1-9][0-9]?)?|[ub]|[ +.;-]|0|[1-9][0-9]?");

    record Literal(int cell, int symbol, boolean is) {
    }

    record Rule(int kind, int number, List<Integer> cells) {
    }

    record Line(int kind, int number, List<Literal> literals) {
    }

    private final int w;
    private final int h;
    private final int s;
    private final List<Rule> rules = new ArrayList<>();
    private final List<Line> lines = new ArrayList<>();
    private final Integer[] answer;
    private final StringBuilder bytes = new StringBuilder();

    Model(int width, int height, int symbols) {
        w = width < 1 ? 1 : width > 4 ? 4 : width;
        h = height < 1 ? 1 : height > 4 ? 4 : height;
        s = symbols < 1 ? 1 : symbols > 6 ? 6 : symbols;
        answer = new Integer[w * h];
    }

    int lines() {
        return lines.size();
    }

    int rule(int kind, int number) {
        if (kind < 0 || kind > 4 || number < 0 || number > 99 || rules.size() == 30) {
            return -1;
        }
        rules.add(new Rule(kind, number, new ArrayList<>()));
        return rules.size() - 1;
    }

    boolean into(int rule, int cell) {
        index(rule, rules.size());
        index(cell, w * h);
        List<Integer> cells = rules.get(rule).cells();
        return !cells.contains(cell) && cells.size() < 9 && cells.add(cell);
    }

    boolean answer(int cell, int symbol) {
        index(cell, w * h);
        if (symbol != -1) {
            argument(symbol);
        }
        Integer before = answer[cell];
        answer[cell] = symbol == -1 ? null : symbol;
        return before == null ? symbol != -1 : before != symbol;
    }

    int test(int rule) {
        index(rule, rules.size());
        for (int cell : rules.get(rule).cells()) {
            if (answer[cell] == null) {
                return -1;
            }
        }
        return meets(rules.get(rule), answer) ? 1 : 0;
    }

    int fails() {
        for (int n = 0; n < rules.size(); n++) {
            if (test(n) != 1) {
                return n;
            }
        }
        return -1;
    }

    int line(int kind, int number) {
        if (kind < 0 || kind > 3 || lines.size() == 60) {
            return -1;
        }
        lines.add(new Line(kind, number, new ArrayList<>()));
        return lines.size() - 1;
    }

    boolean literal(int cell, int symbol, boolean is) {
        index(cell, w * h);
        argument(symbol);
        if (lines.isEmpty()) {
            return false;
        }
        List<Literal> literals = lines.get(lines.size() - 1).literals();
        Literal literal = new Literal(cell, symbol, is);
        return !literals.contains(literal) && literals.size() < 16 && literals.add(literal);
    }

    boolean drop() {
        return !lines.isEmpty() && lines.remove(lines.size() - 1) != null;
    }

    int check() {
        int n = 0;
        while (n < lines.size() && right(lines.get(n), lines.subList(0, n))) {
            n++;
        }
        return n;
    }

    int proves() {
        if (lines.isEmpty() || check() < lines.size() || !lines.get(lines.size() - 1).literals().isEmpty()) {
            return 0;
        }
        return lines.stream().anyMatch(line -> line.kind() == 3) ? 2 : 1;
    }

    int tell(int line, int what) {
        index(line, lines.size());
        Line told = lines.get(line);
        List<Integer> all = new ArrayList<>(List.of(told.kind(), told.number(), told.literals().size()));
        for (Literal literal : told.literals()) {
            all.add(2 * (s * literal.cell() + literal.symbol()) + (literal.is() ? 1 : 0));
        }
        return what >= 0 && what < all.size() ? all.get(what) : -1;
    }

    int may(int cell) {
        index(cell, w * h);
        BitSet[] may = all();
        return cantBe(may, lines) ? 0 : bits(may[cell]);
    }

    boolean unit(int u) {
        if (u < 0 || u > 255 || bytes.length() == 300) {
            return false;
        }
        bytes.append((char) u);
        return true;
    }

    /** The first wrong byte is the least of the one that no line can have and the one that means nothing. */
    int read() {
        String text = bytes.toString();
        bytes.setLength(0);
        int fine = text.length();
        while (!couldGoOn(text.substring(0, fine))) {
            fine--;
        }
        List<Line> came = new ArrayList<>();
        int meaningless = meaningless(text.substring(0, fine), came);
        if (meaningless >= 0) {
            return -1 - meaningless;
        }
        if (fine < text.length() || !ALL_LINES.matcher(text).matches()) {
            return -1 - fine;
        }
        lines.addAll(came);
        return came.size();
    }

    private static boolean couldGoOn(String text) {
        Matcher matcher = ALL_LINES.matcher(text);
        return matcher.matches() || matcher.hitEnd();
    }

    private int meaningless(String text, List<Line> came) {
        Matcher piece = PIECE.matcher(text);
        String before = "";
        int blanks = 0;
        int cell = 0;
        boolean is = false;
        while (piece.find()) {
            String now = piece.group();
            char first = now.charAt(0);
            if ("rusb".indexOf(first) >= 0) {
                int number = now.length() > 1 ? Integer.parseInt(now.substring(1)) : 0;
                came.add(new Line("rusb".indexOf(first), number, new ArrayList<>()));
                blanks = 0;
            } else if (first == ' ') {
                blanks++;
                if (blanks == 17) {
                    return piece.start();
                }
            } else if (first == ';') {
                if (lines.size() + came.size() == 61) {
                    return piece.start();
                }
            } else if (before.equals("+") || before.equals("-")) {
                cell = Integer.parseInt(now);
                is = before.equals("+");
                if (cell >= w * h) {
                    return piece.end() - 1;
                }
            } else if (before.equals(".")) {
                Literal literal = new Literal(cell, Integer.parseInt(now), is);
                List<Literal> literals = came.get(came.size() - 1).literals();
                if (literal.symbol() >= s || literals.contains(literal)) {
                    return piece.end() - 1;
                }
                literals.add(literal);
            }
            before = now;
        }
        return -1;
    }

    private static void index(int n, int size) {
        if (n < 0 || n >= size) {
            throw new ArrayIndexOutOfBoundsException();
        }
    }

    private void argument(int symbol) {
        if (symbol < 0 || symbol >= s) {
            throw new IllegalArgumentException();
        }
    }

    private boolean meets(Rule rule, Integer[] filled) {
        List<Integer> symbols = new ArrayList<>();
        for (int cell : rule.cells()) {
            symbols.add(filled[cell]);
        }
        if (symbols.isEmpty()) {
            return rule.kind() != 1 || rule.number() == 0;
        }
        switch (rule.kind()) {
            case 0:
                return new HashSet<>(symbols).size() == symbols.size();
            case 1:
                return symbols.stream().mapToInt(x -> x).sum() == rule.number();
            case 2:
                return symbols.equals(symbols.stream().sorted().distinct().toList());
            case 3:
                return symbols.stream().filter(x -> x.equals(symbols.get(0))).count() == rule.number();
            default:
                return hang(rule.cells().stream().filter(cell -> filled[cell] == 1).toList());
        }
    }

    private boolean hang(List<Integer> ones) {
        if (ones.isEmpty()) {
            return true;
        }
        Set<Integer> reached = new HashSet<>();
        List<Integer> toGo = new ArrayList<>(List.of(ones.get(0)));
        while (!toGo.isEmpty()) {
            int cell = toGo.remove(0);
            if (reached.add(cell)) {
                ones.stream().filter(other -> next(cell, other)).forEach(toGo::add);
            }
        }
        return reached.size() == ones.size();
    }

    private boolean next(int a, int b) {
        return Math.abs(a % w - b % w) + Math.abs(a / w - b / w) == 1;
    }

    private boolean right(Line line, List<Line> ahead) {
        switch (line.kind()) {
            case 0:
                return byRule(line);
            case 1:
                return cantBe(turned(line), ahead);
            case 2:
                return bySplit(line, ahead);
            default:
                return barred(line);
        }
    }

    private boolean byRule(Line line) {
        if (line.number() < 0 || line.number() >= rules.size()) {
            return false;
        }
        Rule rule = rules.get(line.number());
        double ways = Math.pow(s, rule.cells().size());
        if (ways > 4096) {
            return false;
        }
        for (int way = 0; way < ways; way++) {
            Integer[] filled = new Integer[w * h];
            int rest = way;
            for (int cell : rule.cells()) {
                filled[cell] = rest % s;
                rest /= s;
            }
            Predicate<Literal> so = literal -> filled[literal.cell()] != null
                    && literal.is() == (filled[literal.cell()] == literal.symbol());
            if (meets(rule, filled) && line.literals().stream().noneMatch(so)) {
                return false;
            }
        }
        return true;
    }

    private boolean bySplit(Line line, List<Line> ahead) {
        if (line.number() < 0 || line.number() >= w * h) {
            return false;
        }
        BitSet[] may = turned(line);
        if (cantBe(may, ahead)) {
            return true;
        }
        return may[line.number()].stream().allMatch(symbol -> {
            BitSet[] alone = Arrays.stream(may).map(set -> (BitSet) set.clone()).toArray(BitSet[]::new);
            alone[line.number()].clear();
            alone[line.number()].set(symbol);
            return cantBe(alone, ahead);
        });
    }

    private boolean barred(Line line) {
        Set<Literal> wanted = new HashSet<>();
        for (int cell = 0; cell < w * h; cell++) {
            if (answer[cell] == null) {
                return false;
            }
            wanted.add(new Literal(cell, answer[cell], false));
        }
        return fails() == -1 && wanted.equals(new HashSet<>(line.literals()));
    }

    private BitSet[] all() {
        BitSet[] may = new BitSet[w * h];
        for (int cell = 0; cell < w * h; cell++) {
            may[cell] = new BitSet();
            may[cell].set(0, s);
        }
        return may;
    }

    private BitSet[] turned(Line line) {
        BitSet[] may = all();
        for (Literal literal : line.literals()) {
            make(may, new Literal(literal.cell(), literal.symbol(), !literal.is()));
        }
        return may;
    }

    private static void make(BitSet[] may, Literal literal) {
        BitSet that = new BitSet();
        that.set(literal.symbol());
        if (literal.is()) {
            may[literal.cell()].and(that);
        } else {
            may[literal.cell()].andNot(that);
        }
    }

    private static boolean so(BitSet[] may, Literal literal) {
        BitSet set = may[literal.cell()];
        boolean has = set.get(literal.symbol());
        return literal.is() ? has && set.cardinality() == 1 : !has;
    }

    private static boolean notSo(BitSet[] may, Literal literal) {
        return so(may, new Literal(literal.cell(), literal.symbol(), !literal.is()));
    }

    private static boolean cantBe(BitSet[] may, List<Line> ahead) {
        boolean changed = true;
        while (changed) {
            if (Arrays.stream(may).anyMatch(BitSet::isEmpty)) {
                return true;
            }
            changed = false;
            for (Line line : ahead) {
                List<Literal> left = line.literals().stream().filter(l -> !notSo(may, l)).toList();
                if (left.isEmpty()) {
                    return true;
                }
                if (left.size() == 1 && !so(may, left.get(0))) {
                    make(may, left.get(0));
                    changed = true;
                    break;
                }
            }
        }
        return false;
    }

    private static int bits(BitSet set) {
        return set.isEmpty() ? 0 : (int) set.toLongArray()[0];
    }
}
