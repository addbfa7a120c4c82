/**
 * A checker of proofs about a grid of cells with symbols. The document's words in capitals
 * (MEETS, MAY BE, IS SO, CAN'T BE, BARRED ..) are used here in its sense.
 */
public final class ProofChecker {
    private static final int NONE = -1;

    private final Grid grid;
    private final Rules rules;
    private final Lines lines;
    private final Units units;
    private final Reader reader;
    /** THE ANSWER: the symbol of each cell, or NONE. */
    private final int[] said;

    public ProofChecker(int width, int height, int symbols) {
        grid = new Grid(width, height, symbols);
        rules = new Rules(grid);
        lines = new Lines();
        units = new Units(grid, lines);
        reader = new Reader(grid, lines);
        said = new int[Grid.MOST_CELLS];
        for (int cell = 0; cell < Grid.MOST_CELLS; cell++) {
            said[cell] = NONE;
        }
    }

    public int rule(int kind, int number) {
        if (kind < 0 || kind > Rules.LAST_KIND || number < 0 || number > Rules.MOST_NUMBER) {
            return NONE;
        }
        return rules.append(kind, number);
    }

    public boolean into(int rule, int cell) throws ArrayIndexOutOfBoundsException {
        needRule(rule);
        needCell(cell);
        return rules.addCell(rule, cell);
    }

    public boolean answer(int cell, int symbol) throws ArrayIndexOutOfBoundsException, IllegalArgumentException {
        needCell(cell);
        if (symbol != NONE) {
            needSymbol(symbol);
        }
        if (said[cell] == symbol) {
            return false;
        }
        said[cell] = symbol;
        return true;
    }

    public int test(int rule) throws ArrayIndexOutOfBoundsException {
        needRule(rule);
        if (!rules.allSaid(rule, said)) {
            return NONE;
        }
        return rules.meets(rule, said) ? 1 : 0;
    }

    public int fails() {
        for (int rule = 0; rule < rules.count(); rule++) {
            if (!rules.allSaid(rule, said) || !rules.meets(rule, said)) {
                return rule;
            }
        }
        return NONE;
    }

    public int line(int kind, int number) {
        if (kind < 0 || kind > Lines.LAST_KIND || lines.isFull()) {
            return NONE;
        }
        lines.startDraft(kind, number);
        lines.keepDraft();
        return lines.count() - 1;
    }

    public boolean literal(int cell, int symbol, boolean is)
            throws ArrayIndexOutOfBoundsException, IllegalArgumentException {
        needCell(cell);
        needSymbol(symbol);
        if (lines.count() == 0) {
            return false;
        }
        return lines.addLiteral(lines.count() - 1, Lines.literalOf(cell, symbol, is));
    }

    public boolean drop() {
        if (lines.count() == 0) {
            return false;
        }
        lines.cutTo(lines.count() - 1);
        return true;
    }

    public int check() {
        int right = 0;
        while (right < lines.count() && followsFromLinesAhead(right)) {
            right++;
        }
        return right;
    }

    public int proves() {
        int count = lines.count();
        if (count == 0 || lines.sizeOf(count - 1) != 0) {
            return 0;
        }
        int proof = 1;
        for (int line = 0; line < count; line++) {
            if (!followsFromLinesAhead(line)) {
                return 0;
            }
            if (lines.kindOf(line) == Lines.BARRED) {
                proof = 2;
            }
        }
        return proof;
    }

    public int tell(int line, int what) throws ArrayIndexOutOfBoundsException {
        if (line < 0 || line >= lines.count()) {
            throw new ArrayIndexOutOfBoundsException("no such line");
        }
        switch (what) {
            case 0:
                return lines.kindOf(line);
            case 1:
                return lines.numberOf(line);
            case 2:
                return lines.sizeOf(line);
            default:
                return toldLiteral(line, what);
        }
    }

    public int may(int cell) throws ArrayIndexOutOfBoundsException {
        needCell(cell);
        units.startWhole();
        return units.comeToNothing(lines.count()) ? 0 : units.symbolsOf(cell);
    }

    public boolean unit(int u) {
        return reader.append(u);
    }

    public int read() {
        return reader.readAll();
    }

    private void needRule(int rule) {
        if (!rules.has(rule)) {
            throw new ArrayIndexOutOfBoundsException("no such rule");
        }
    }

    private void needCell(int cell) {
        if (!grid.hasCell(cell)) {
            throw new ArrayIndexOutOfBoundsException("no such cell");
        }
    }

    private void needSymbol(int symbol) {
        if (!grid.hasSymbol(symbol)) {
            throw new IllegalArgumentException("no such symbol");
        }
    }

    private int toldLiteral(int line, int what) {
        if (what < 3 || what - 3 >= lines.sizeOf(line)) {
            return NONE;
        }
        int literal = lines.literalAt(line, what - 3);
        int place = grid.symbols() * Lines.cellOf(literal) + Lines.symbolOf(literal);
        return 2 * place + (Lines.saysIs(literal) ? 1 : 0);
    }

    private boolean followsFromLinesAhead(int line) {
        int number = lines.numberOf(line);
        switch (lines.kindOf(line)) {
            case Lines.BY_RULE:
                return rules.has(number) && isByRule(line, number);
            case Lines.BY_UNITS:
                return units.refute(line);
            case Lines.BY_SPLIT:
                return grid.hasCell(number) && units.refuteBySplit(line, number);
            default:
                return isBarred(line);
        }
    }

    /**
     * The ways in which no literal is so are just those that the line turned round leaves to
     * the rule's cells, so that only these are tried; what it leaves to other cells has no say.
     */
    private boolean isByRule(int line, int rule) {
        if (!rules.canBeTried(rule)) {
            return false;
        }
        units.turnRound(line);
        return !rules.canBeMet(rule, units, 0);
    }

    private boolean isBarred(int line) {
        return lines.sizeOf(line) == grid.cells() && deniesOnlyWhatIsSaid(line) && fails() == NONE;
    }

    /**
     * A line has no literal twice, so that with as many of these as there are cells it has one
     * for each cell, and THE ANSWER is whole.
     */
    private boolean deniesOnlyWhatIsSaid(int line) {
        for (int place = 0; place < lines.sizeOf(line); place++) {
            int literal = lines.literalAt(line, place);
            if (Lines.saysIs(literal) || said[Lines.cellOf(literal)] != Lines.symbolOf(literal)) {
                return false;
            }
        }
        return true;
    }

    /** THE GRID and its SYMBOLS. */
    private static final class Grid {
        static final int MOST_CELLS = 16;
        private static final int MOST_SIDE = 4;
        private static final int MOST_SYMBOLS = 6;

        private final int width;
        private final int cells;
        private final int symbols;
        /** The bits of the cells that have none to the left, and of those that have none to the right. */
        private final int leftEdge;
        private final int rightEdge;

        Grid(int widthWanted, int heightWanted, int symbolsWanted) {
            width = within(widthWanted, MOST_SIDE);
            cells = width * within(heightWanted, MOST_SIDE);
            symbols = within(symbolsWanted, MOST_SYMBOLS);
            int firstOfRows = 0;
            for (int cell = 0; cell < cells; cell += width) {
                firstOfRows = firstOfRows | (1 << cell);
            }
            leftEdge = firstOfRows;
            rightEdge = firstOfRows << (width - 1);
        }

        private static int within(int wanted, int most) {
            return Math.max(1, Math.min(most, wanted));
        }

        int cells() {
            return cells;
        }

        int symbols() {
            return symbols;
        }

        int allSymbols() {
            return (1 << symbols) - 1;
        }

        boolean hasCell(int cell) {
            return cell >= 0 && cell < cells;
        }

        boolean hasSymbol(int symbol) {
            return symbol >= 0 && symbol < symbols;
        }

        /** Whether the cells of these bits hang together; none or one does. */
        boolean hangTogether(int bits) {
            // any one cell to start from: the lowest bit
            int reached = bits & -bits;
            for (int step = 0; step < cells && reached != bits; step++) {
                reached = reached | (nextTo(reached) & bits);
            }
            return reached == bits;
        }

        /** The cells next to these, and perhaps bits above and below THE GRID. */
        private int nextTo(int bits) {
            int upAndDown = (bits >> width) | (bits << width);
            int toTheLeft = (bits & ~leftEdge) >> 1;
            int toTheRight = (bits & ~rightEdge) << 1;
            return upAndDown | toTheLeft | toTheRight;
        }
    }

    /** The RULES, and when a way to fill their cells MEETS them. */
    private static final class Rules {
        static final int LAST_KIND = 4;
        static final int MOST_NUMBER = 99;
        private static final int ALL_UNLIKE = 0;
        private static final int ADD_UP = 1;
        private static final int RISE = 2;
        private static final int LIKE_THE_FIRST = 3;
        private static final int MOST_RULES = 30;
        private static final int MOST_CELLS = 9;
        private static final int MOST_WAYS = 4096;

        private final Grid grid;
        private final int[] kinds = new int[MOST_RULES];
        private final int[] numbers = new int[MOST_RULES];
        private final int[] sizes = new int[MOST_RULES];
        /** The cells of rule r stand from MOST_CELLS r on. */
        private final int[] cells = new int[MOST_RULES * MOST_CELLS];
        /** The symbol of each cell in the way that is tried. */
        private final int[] tried = new int[Grid.MOST_CELLS];
        private int count = 0;

        Rules(Grid grid) {
            this.grid = grid;
        }

        int count() {
            return count;
        }

        boolean has(int rule) {
            return rule >= 0 && rule < count;
        }

        int append(int kind, int number) {
            if (count >= MOST_RULES) {
                return NONE;
            }
            kinds[count] = kind;
            numbers[count] = number;
            count++;
            return count - 1;
        }

        boolean addCell(int rule, int cell) {
            int size = sizes[rule];
            if (size >= MOST_CELLS) {
                return false;
            }
            for (int place = 0; place < size; place++) {
                if (cellAt(rule, place) == cell) {
                    return false;
                }
            }
            cells[MOST_CELLS * rule + size] = cell;
            sizes[rule] = size + 1;
            return true;
        }

        private int cellAt(int rule, int place) {
            return cells[MOST_CELLS * rule + place];
        }

        boolean allSaid(int rule, int[] symbolOf) {
            for (int place = 0; place < sizes[rule]; place++) {
                if (symbolOf[cellAt(rule, place)] == NONE) {
                    return false;
                }
            }
            return true;
        }

        boolean meets(int rule, int[] symbolOf) {
            switch (kinds[rule]) {
                case ALL_UNLIKE:
                    return areUnlike(rule, symbolOf);
                case ADD_UP:
                    return sum(rule, symbolOf) == numbers[rule];
                case RISE:
                    return rise(rule, symbolOf);
                case LIKE_THE_FIRST:
                    return sizes[rule] == 0 || likeTheFirst(rule, symbolOf) == numbers[rule];
                default:
                    return grid.hangTogether(cellsWithOne(rule, symbolOf));
            }
        }

        private boolean areUnlike(int rule, int[] symbolOf) {
            int seen = 0;
            for (int place = 0; place < sizes[rule]; place++) {
                int bit = 1 << symbolOf[cellAt(rule, place)];
                if ((seen & bit) != 0) {
                    return false;
                }
                seen = seen | bit;
            }
            return true;
        }

        private int sum(int rule, int[] symbolOf) {
            int sum = 0;
            for (int place = 0; place < sizes[rule]; place++) {
                sum += symbolOf[cellAt(rule, place)];
            }
            return sum;
        }

        private boolean rise(int rule, int[] symbolOf) {
            for (int place = 1; place < sizes[rule]; place++) {
                if (symbolOf[cellAt(rule, place)] <= symbolOf[cellAt(rule, place - 1)]) {
                    return false;
                }
            }
            return true;
        }

        private int likeTheFirst(int rule, int[] symbolOf) {
            int first = symbolOf[cellAt(rule, 0)];
            int alike = 0;
            for (int place = 0; place < sizes[rule]; place++) {
                if (symbolOf[cellAt(rule, place)] == first) {
                    alike++;
                }
            }
            return alike;
        }

        private int cellsWithOne(int rule, int[] symbolOf) {
            int bits = 0;
            for (int place = 0; place < sizes[rule]; place++) {
                int cell = cellAt(rule, place);
                if (symbolOf[cell] == 1) {
                    bits = bits | (1 << cell);
                }
            }
            return bits;
        }

        boolean canBeTried(int rule) {
            int ways = 1;
            for (int place = 0; place < sizes[rule]; place++) {
                // 6 to the 9 at most, which an int holds
                ways *= grid.symbols();
            }
            return ways <= MOST_WAYS;
        }

        /**
         * Whether some way to fill its cells, from a place on, with what they may be meets the
         * rule; the cells ahead of that place are filled.
         */
        private boolean canBeMet(int rule, Units units, int place) {
            if (place >= sizes[rule]) {
                return meets(rule, tried);
            }
            int cell = cellAt(rule, place);
            int symbols = units.symbolsOf(cell);
            for (int symbol = 0; symbol < grid.symbols(); symbol++) {
                if ((symbols & (1 << symbol)) != 0) {
                    tried[cell] = symbol;
                    if (canBeMet(rule, units, place + 1)) {
                        return true;
                    }
                }
            }
            return false;
        }
    }

    /**
     * The LINES, and behind them room for one more, the draft, so that a 61st line can be read
     * up to its semicolon. A LITERAL is 16 cell + 2 symbol, and 1 when it says that it is.
     */
    private static final class Lines {
        static final int BY_RULE = 0;
        static final int BY_UNITS = 1;
        static final int BY_SPLIT = 2;
        static final int BARRED = 3;
        static final int LAST_KIND = 3;
        private static final int MOST_LINES = 60;
        private static final int MOST_LITERALS = 16;

        private final int[] kinds = new int[MOST_LINES + 1];
        private final int[] numbers = new int[MOST_LINES + 1];
        private final int[] sizes = new int[MOST_LINES + 1];
        /** The literals of line n stand from MOST_LITERALS n on. */
        private final int[] literals = new int[(MOST_LINES + 1) * MOST_LITERALS];
        private int count = 0;

        static int literalOf(int cell, int symbol, boolean is) {
            return (cell << 4) | (symbol << 1) | (is ? 1 : 0);
        }

        static int cellOf(int literal) {
            return literal >> 4;
        }

        static int symbolOf(int literal) {
            return (literal >> 1) & 7;
        }

        static boolean saysIs(int literal) {
            return (literal & 1) == 1;
        }

        int count() {
            return count;
        }

        boolean isFull() {
            return count >= MOST_LINES;
        }

        int kindOf(int line) {
            return kinds[line];
        }

        int numberOf(int line) {
            return numbers[line];
        }

        int sizeOf(int line) {
            return sizes[line];
        }

        int literalAt(int line, int place) {
            return literals[MOST_LITERALS * line + place];
        }

        void startDraft(int kind, int number) {
            kinds[count] = kind;
            numbers[count] = number;
            sizes[count] = 0;
        }

        /** The draft becomes the last line; false when there are as many as there may be. */
        boolean keepDraft() {
            if (isFull()) {
                return false;
            }
            count++;
            return true;
        }

        void cutTo(int fewer) {
            count = fewer;
        }

        boolean isFullOfLiterals(int line) {
            return sizes[line] >= MOST_LITERALS;
        }

        boolean addLiteral(int line, int literal) {
            if (isFullOfLiterals(line)) {
                return false;
            }
            int size = sizes[line];
            for (int place = 0; place < size; place++) {
                if (literalAt(line, place) == literal) {
                    return false;
                }
            }
            literals[MOST_LITERALS * line + size] = literal;
            sizes[line] = size + 1;
            return true;
        }
    }

    /** What each cell MAY BE, and what unit steps by the lines ahead make of it. */
    private static final class Units {
        private static final int NO_STEP = 0;
        private static final int CHANGED = 1;
        private static final int CANT_BE = 2;
        private static final int SO = 3;
        private static final int NOT_SO = 4;
        private static final int OPEN = 5;

        private final Grid grid;
        private final Lines lines;
        /** For each cell the bits of the symbols that it may be. */
        private final int[] symbols = new int[Grid.MOST_CELLS];
        private final int[] beforeSplit = new int[Grid.MOST_CELLS];

        Units(Grid grid, Lines lines) {
            this.grid = grid;
            this.lines = lines;
        }

        int symbolsOf(int cell) {
            return symbols[cell];
        }

        void startWhole() {
            for (int cell = 0; cell < grid.cells(); cell++) {
                symbols[cell] = grid.allSymbols();
            }
        }

        void turnRound(int line) {
            startWhole();
            for (int place = 0; place < lines.sizeOf(line); place++) {
                int literal = lines.literalAt(line, place);
                narrow(literal, !Lines.saysIs(literal));
            }
        }

        private void narrow(int literal, boolean is) {
            int cell = Lines.cellOf(literal);
            int bit = 1 << Lines.symbolOf(literal);
            symbols[cell] = symbols[cell] & (is ? bit : ~bit);
        }

        /** Whether something can't be, by units from the line turned round. */
        boolean refute(int line) {
            turnRound(line);
            return comeToNothing(line);
        }

        boolean refuteBySplit(int line, int cell) {
            if (refute(line)) {
                return true;
            }
            System.arraycopy(symbols, 0, beforeSplit, 0, Grid.MOST_CELLS);
            for (int symbol = 0; symbol < grid.symbols(); symbol++) {
                int bit = 1 << symbol;
                if ((beforeSplit[cell] & bit) != 0) {
                    System.arraycopy(beforeSplit, 0, symbols, 0, Grid.MOST_CELLS);
                    symbols[cell] = bit;
                    if (!comeToNothing(line)) {
                        return false;
                    }
                }
            }
            return true;
        }

        /** Goes on by units with the first so many lines; whether something can't be. */
        boolean comeToNothing(int ahead) {
            if (someCellMayBeNothing()) {
                return true;
            }
            // each change takes a symbol from a cell, so that there are fewer changes than these
            int mostChanges = grid.cells() * grid.symbols();
            int line = 0;
            for (int looks = 0; looks < (mostChanges + 1) * ahead && line < ahead; looks++) {
                int outcome = stepBy(line);
                if (outcome == CANT_BE) {
                    return true;
                }
                line = outcome == CHANGED ? 0 : line + 1;
            }
            return false;
        }

        private boolean someCellMayBeNothing() {
            for (int cell = 0; cell < grid.cells(); cell++) {
                if (symbols[cell] == 0) {
                    return true;
                }
            }
            return false;
        }

        private int stepBy(int line) {
            int open = NONE;
            for (int place = 0; place < lines.sizeOf(line); place++) {
                int literal = lines.literalAt(line, place);
                int state = stateOf(literal);
                if (state == SO || (state == OPEN && open != NONE)) {
                    return NO_STEP;
                }
                if (state == OPEN) {
                    open = literal;
                }
            }
            if (open == NONE) {
                return CANT_BE;
            }
            narrow(open, Lines.saysIs(open));
            return CHANGED;
        }

        private int stateOf(int literal) {
            int mayBe = symbols[Lines.cellOf(literal)];
            int bit = 1 << Lines.symbolOf(literal);
            if (mayBe == bit) {
                return Lines.saysIs(literal) ? SO : NOT_SO;
            }
            if ((mayBe & bit) == 0) {
                return Lines.saysIs(literal) ? NOT_SO : SO;
            }
            return OPEN;
        }
    }

    /**
     * What is to be read, and how it is read as lines. Each step of the reading answers whether all
     * went well (or the number that it read, NONE if there is none); when not, it leaves the place
     * at the wrong byte.
     */
    private static final class Reader {
        private static final int MOST_BYTES = 300;
        private static final int LAST_BYTE = 255;

        private final Grid grid;
        private final Lines lines;
        private final int[] bytes = new int[MOST_BYTES];
        private int count = 0;
        private int place = 0;

        Reader(Grid grid, Lines lines) {
            this.grid = grid;
            this.lines = lines;
        }

        boolean append(int u) {
            if (u < 0 || u > LAST_BYTE || count >= MOST_BYTES) {
                return false;
            }
            bytes[count] = u;
            count++;
            return true;
        }

        int readAll() {
            int before = lines.count();
            boolean well = true;
            place = 0;
            // each line takes a byte at least, so that there are no more lines than bytes
            for (int line = 0; line < MOST_BYTES && well && place < count; line++) {
                well = readLine();
            }
            count = 0;
            if (!well) {
                lines.cutTo(before);
                return -1 - place;
            }
            return lines.count() - before;
        }

        private boolean readLine() {
            if (!readHead()) {
                return false;
            }
            int draft = lines.count();
            for (int literal = 0; literal < MOST_BYTES && isHere(' '); literal++) {
                if (lines.isFullOfLiterals(draft) || !readLiteral(draft)) {
                    return false;
                }
            }
            if (!isHere(';') || !lines.keepDraft()) {
                return false;
            }
            place++;
            return true;
        }

        private boolean readHead() {
            if (isHere('u') || isHere('b')) {
                lines.startDraft(isHere('u') ? Lines.BY_UNITS : Lines.BARRED, 0);
                place++;
                return true;
            }
            if (!isHere('r') && !isHere('s')) {
                return false;
            }
            int kind = isHere('r') ? Lines.BY_RULE : Lines.BY_SPLIT;
            place++;
            int number = readNumber();
            lines.startDraft(kind, number);
            return number != NONE;
        }

        private boolean readLiteral(int draft) {
            place++;
            boolean is = isHere('+');
            if (!is && !isHere('-')) {
                return false;
            }
            place++;
            int cell = readNumberBelow(grid.cells());
            if (cell == NONE || !isHere('.')) {
                return false;
            }
            place++;
            int symbol = readNumberBelow(grid.symbols());
            if (symbol == NONE) {
                return false;
            }
            if (!lines.addLiteral(draft, Lines.literalOf(cell, symbol, is))) {
                place--;
                return false;
            }
            return true;
        }

        private int readNumberBelow(int bound) {
            int number = readNumber();
            if (number >= bound) {
                place--;
                return NONE;
            }
            return number;
        }

        private int readNumber() {
            int first = digitHere();
            if (first == NONE) {
                return NONE;
            }
            place++;
            int second = first == 0 ? NONE : digitHere();
            if (second == NONE) {
                return first;
            }
            place++;
            return 10 * first + second;
        }

        private int digitHere() {
            if (place >= count || bytes[place] < '0' || bytes[place] > '9') {
                return NONE;
            }
            return bytes[place] - '0';
        }

        private boolean isHere(char wanted) {
            return place < count && bytes[place] == wanted;
        }
    }
}
