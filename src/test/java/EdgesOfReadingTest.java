/** Promises 14 and 15: a test for each sentence with an edge. */
public final class EdgesOfReadingTest {
    private static final Due due = new Due();
    private static final Twins twins = new Twins(due);

    public static void main(String[] args) {
        unitsThatAreBytes();
        unitsAtMost();

        whatCameIsGone();
        linesComeBehind();
        thenNoneComes();
        heads();
        literalsOfALine();
        numbersOfRulesAndSplits();
        numbersWithZeroAhead();
        bytesThatCantBeThere();
        cellsThatThereAreNot();
        symbolsThatThereAreNot();
        literalsThatTheLineHas();
        seventeenthLiteral();
        sixtyFirstLine();
        endWithinALine();
        firstWrongByte();
        due.end();
    }

    private static int read(String text) {
        return Due.read(new ProofChecker(4, 4, 6), text);
    }

    // Promise 14

    private static void unitsThatAreBytes() {
        due.sentence("Promise 14: false when it is not 0 .. 255");
        for (int u = 0; u <= 255; u++) {
            ProofChecker x = new ProofChecker(1, 1, 1);
            due.is("unit(" + u + ")", x.unit(u), true);
            boolean head = u == 'r' || u == 'u' || u == 's' || u == 'b';
            due.is("it came", x.read(), head ? -2 : -1);
        }
        for (int u : Due.outside(0, 255)) {
            twins.refuse("unit(" + u + ") at first", false, Twins::empty, y -> y.unit(u));
            twins.refuse("unit(" + u + ")", false, Twins::some, y -> y.unit(u));
            twins.refuse("unit(" + u + ") as a 301st", false, Twins::fullOfBytes, y -> y.unit(u));
            isReadBehindRefused(u);
        }
        for (int high : new int[] {-256, 256, 65536, 1 << 24, Integer.MIN_VALUE}) {
            twins.refuse("unit(';' + " + high + ")", false, Twins::some, y -> y.unit(';' + high));
        }
    }

    private static void unitsAtMost() {
        due.sentence("Promise 14: false when there are 300");
        ProofChecker x = new ProofChecker(4, 4, 6);
        for (int n = 0; n < 299; n++) {
            due.is("byte " + (n + 1), x.unit(n % 2 == 0 ? 'u' : ';'), true);
        }
        due.is("byte 300", x.unit(255), true);
        due.is("byte 301", x.unit('u'), false);
        due.is("byte 302", x.unit(0), false);
        for (int u : new int[] {0, ' ', ';', 'u', 255}) {
            twins.refuse("byte 301: " + u, false, Twins::fullOfBytes, y -> y.unit(u));
            isReadBehindRefused(u);
        }
        due.is("300 bytes are read", Due.read(new ProofChecker(4, 4, 6), sixLines()), 6);
        due.is("the 300th is read", read(sixLines().substring(0, 299) + "?"), -300);
    }

    /** Twins get one byte more before they read, which would hide a 300th byte that was written over. */
    private static void isReadBehindRefused(int u) {
        ProofChecker x = Twins.fullOfBytes();
        due.is("byte 301: " + u, x.unit(u), false);
        due.is("the 300 ahead of it are read", x.read(), 6);
    }

    /** 300 bytes that are six lines. */
    private static String sixLines() {
        return "r10 +0.0 -1.1 +2.2 -3.3 +4.4 -5.5 +6.0 -7.1 +10.2;".repeat(6);
    }

    // Promise 15

    private static void whatCameIsGone() {
        due.sentence("Promise 15: What came is read as lines (and is gone)");
        ProofChecker x = new ProofChecker(2, 2, 2);
        due.is("nothing came", x.read(), 0);
        due.is("a line", Due.read(x, "u;"), 1);
        due.is("it is gone", x.read(), 0);
        due.is("half a line", Due.read(x, "u +0.0"), -7);
        due.is("it is gone too", x.read(), 0);
        due.is("its other half is not a line", Due.read(x, ";"), -1);
        due.is("a wrong byte with others behind", Due.read(x, "u;?u;u;"), -3);
        due.is("they are gone too", x.read(), 0);
        due.is("lines", lineCount(x), 1);
        String line = "r12 +3.1 -0.1;";
        for (int length = 1; length < line.length(); length++) {
            ProofChecker y = new ProofChecker(2, 2, 2);
            due.is(line, Due.read(y, line), 1);
            due.is("what is gone is not read behind " + length + " bytes",
                    Due.read(y, line.substring(0, length)), -1 - length);
        }
        for (String text : new String[] {sixLines(), sixLines().replace(';', '?')}) {
            ProofChecker y = new ProofChecker(4, 4, 6);
            due.is("300 bytes", Due.read(y, text), text.indexOf('?') < 0 ? 6 : -50);
            int taken = 0;
            while (taken < 205 && y.unit('u')) {
                taken++;
            }
            due.is("there is room again", taken, 205);
        }
    }

    /** How many lines there are; all go. */
    private static int lineCount(ProofChecker x) {
        int count = 0;
        while (x.drop()) {
            count++;
        }
        return count;
    }

    private static void linesComeBehind() {
        due.sentence("Promise 15: which come behind the others: how many");
        ProofChecker x = new ProofChecker(2, 2, 2);
        x.line(3, 8);
        x.literal(3, 1, true);
        due.is("three lines", Due.read(x, "s7;u -0.1 +0.0;r0;"), 3);
        int[][] wants = {{3, 8, 1, 15}, {2, 7, 0, -1}, {1, 0, 2, 2, 1}, {0, 0, 0, -1}};
        tells(x, wants);
        due.isThrown("no line more", Due.NO_INDEX, () -> x.tell(4, 0));
        due.is("a literal comes to the last one", x.literal(0, 0, true), true);
        due.is("one line more", Due.read(x, "b;"), 1);
        due.is("it is behind the others", x.tell(4, 0), 3);
    }

    private static void tells(ProofChecker x, int[][] wants) {
        for (int line = 0; line < wants.length; line++) {
            for (int what = 0; what < wants[line].length; what++) {
                due.is("tell(" + line + ", " + what + ")", x.tell(line, what), wants[line][what]);
            }
        }
    }

    private static void thenNoneComes() {
        due.sentence("Promise 15: or -1 less the place of the first wrong byte, then none comes");
        String[] wrong = {"?", ";", "u", "u;?", "u +0.0;r5 -1.1 +9", "u;u;u +12.0;", "s3 +0.0 +0.0;", "r", "r07;"};
        for (String text : wrong) {
            twins.refuse(text + ", no line", true, EdgesOfReadingTest::noLinesAndNoBytes, y -> refusedText(y, text));
            twins.refuse(text, true, EdgesOfReadingTest::linesAndNoBytes, y -> refusedText(y, text));
        }
        for (String text : new String[] {"b;", "u +0.0;", "u", "?", "u +0.0 +0.0;"}) {
            twins.refuse(text + ", 60 lines", true, EdgesOfReadingTest::sixtyLinesAndNoBytes,
                    y -> refusedText(y, text));
        }
    }

    private static boolean refusedText(ProofChecker x, String text) {
        return Due.read(x, text) < 0;
    }

    private static ProofChecker linesAndNoBytes() {
        ProofChecker x = Twins.some();
        x.read();
        return x;
    }

    private static ProofChecker noLinesAndNoBytes() {
        ProofChecker x = linesAndNoBytes();
        x.drop();
        x.drop();
        return x;
    }

    private static ProofChecker sixtyLinesAndNoBytes() {
        ProofChecker x = Twins.fullOfLines();
        x.read();
        return x;
    }

    private static void heads() {
        due.sentence("Promise 15: r and a number (BY RULE), u (BY UNITS, its number 0), s and a number (BY SPLIT), "
                + "b (BARRED, its number 0)");
        ProofChecker x = new ProofChecker(2, 2, 2);
        x.line(1, 99);
        x.line(1, 98);
        x.line(1, 97);
        lineCount(x);
        // where lines with other numbers were before
        due.is("four lines", Due.read(x, "u;b;r5;s6;"), 4);
        tells(x, new int[][] {{1, 0, 0}, {3, 0, 0}, {0, 5, 0}, {2, 6, 0}});
        due.is("u and a number", read("u0;"), -2);
        due.is("b and a number", read("b0;"), -2);
        due.is("r without a number", read("r;"), -2);
        due.is("s without a number", read("s;"), -2);
        due.is("r, a literal", read("r +0.0;"), -2);
        due.is("s, a literal", read("s +0.0;"), -2);
    }

    private static void literalsOfALine() {
        due.sentence("Promise 15: any number of literals: a blank, + (it is) or -, a cell, a point, a symbol");
        for (String head : new String[] {"r1", "u", "s10", "b"}) {
            for (int size = 0; size <= 16; size++) {
                ProofChecker x = new ProofChecker(4, 4, 6);
                due.is(size + " literals behind " + head, Due.read(x, head + literals(size) + ";"), 1);
                due.is("how many came", x.tell(0, 2), size);
                for (int n = 0; n < size; n++) {
                    due.is("literal " + n, x.tell(0, 3 + n), 2 * (6 * n + n % 6) + (n % 2 == 0 ? 1 : 0));
                }
                due.is("no more", x.tell(0, 3 + size), -1);
            }
        }
    }

    /** One literal for each of the first cells. */
    private static String literals(int size) {
        StringBuilder text = new StringBuilder();
        for (int n = 0; n < size; n++) {
            text.append(n % 2 == 0 ? " +" : " -").append(n).append('.').append(n % 6);
        }
        return text.toString();
    }

    private static void numbersOfRulesAndSplits() {
        due.sentence("Promise 15: Numbers are decimal, one or two digits");
        for (int number = 0; number <= 99; number++) {
            ProofChecker x = new ProofChecker(1, 1, 1);
            due.is("r and s " + number, Due.read(x, "r" + number + ";s" + number + " +0.0;"), 2);
            tells(x, new int[][] {{0, number, 0}, {2, number, 1, 1}});
        }
        for (int number = 100; number <= 999; number++) {
            due.is("r" + number, read("r" + number + ";"), -4);
            due.is("s" + number, read("s" + number + " +0.0;"), -4);
        }
        due.is("four digits", read("r1000;"), -4);
        due.is("a sign", read("r-1;"), -2);
        due.is("a plus sign", read("r+1;"), -2);
        due.is("hexadecimal", read("ra;"), -2);
    }

    private static void numbersWithZeroAhead() {
        due.sentence("Promise 15: (the first one no 0 but in 0 itself)");
        for (int digit = 0; digit <= 9; digit++) {
            due.is("r0" + digit, read("r0" + digit + ";"), -3);
            due.is("s0" + digit, read("s0" + digit + ";"), -3);
            due.is("cell 0" + digit, read("u +0" + digit + ".0;"), -5);
            due.is("symbol 0" + digit, read("u +0.0" + digit + ";"), -7);
        }
        due.is("r0", read("r0;"), 1);
        due.is("s0", read("s0;"), 1);
        due.is("cell 0, symbol 0", read("u +0.0;"), 1);
    }

    private static void bytesThatCantBeThere() {
        due.sentence("Promise 15: Wrong is a byte that can't be there");
        String digits = "0123456789";
        // what can follow each beginning of a text
        canFollow("", "rusb");
        canFollow("r", digits);
        canFollow("s", digits);
        canFollow("r0", " ;");
        canFollow("r1", " ;" + digits);
        canFollow("s9", " ;" + digits);
        canFollow("r10", " ;");
        canFollow("s99", " ;");
        canFollow("u", " ;");
        canFollow("b", " ;");
        canFollow("r7 ", "+-");
        canFollow("u ", "+-");
        canFollow("u +", digits);
        canFollow("u -", digits);
        canFollow("u +0", ".");
        canFollow("u +1", ".012345");
        canFollow("u +10", ".");
        canFollow("u -15", ".");
        canFollow("u +0.", "012345");
        canFollow("u -15.", "012345");
        canFollow("u +0.0", " ;");
        canFollow("b -15.5", " ;");
        canFollow("u +0.0 ", "+-");
        canFollow("u +0.0 +", digits);
        canFollow("u;", "rusb");
        canFollow("u +0.0;", "rusb");
        canFollow("u;b;", "rusb");
        canFollow("s99 -15.5;", "rusb");
    }

    /** Reads a beginning and one byte more: where that can be there, only the end may be wrong. */
    private static void canFollow(String beginning, String fine) {
        for (int u = 0; u <= 255; u++) {
            int got = read(beginning + (char) u);
            if (u == ';' && fine.indexOf(u) >= 0) {
                due.is("semicolon behind '" + beginning + "'", got, 1);
            } else if (fine.indexOf(u) >= 0) {
                due.is("byte " + u + " behind '" + beginning + "'", got, -2 - beginning.length());
            } else {
                due.is("byte " + u + " behind '" + beginning + "'", got, -1 - beginning.length());
            }
        }
    }

    private static void cellsThatThereAreNot() {
        due.sentence("Promise 15: Wrong is the last byte of a cell that there is not");
        for (int size = 0; size < 16; size++) {
            int cells = (1 + size % 4) * (1 + size / 4);
            for (int cell = 0; cell <= 99; cell++) {
                ProofChecker x = new ProofChecker(1 + size % 4, 1 + size / 4, 2);
                int last = 2 + String.valueOf(cell).length();
                int got = Due.read(x, "u +" + cell + ".0;");
                due.is("cell " + cell + " of " + cells, got, cell < cells ? 1 : -1 - last);
                if (cell >= cells) {
                    due.is("the end behind it", Due.read(x, "u +" + cell), -1 - last);
                    due.is("no point behind it", Due.read(x, "b -" + cell + "?"), -1 - last);
                }
            }
        }
        due.is("three digits", read("u +160.0;"), -5);
        due.is("three digits, of which two are a cell", read("u +150.0;"), -6);
        due.is("as the second literal", read("u +0.0 -16.0;"), -10);
        due.is("in the second line", read("u;u +16.0;"), -7);
    }

    private static void symbolsThatThereAreNot() {
        due.sentence("Promise 15: Wrong is the last byte of a symbol that there is not");
        for (int symbols = 1; symbols <= 6; symbols++) {
            for (int symbol = 0; symbol <= 99; symbol++) {
                ProofChecker x = new ProofChecker(4, 4, symbols);
                int last = 4 + String.valueOf(symbol).length();
                int got = Due.read(x, "u +0." + symbol + ";");
                due.is("symbol " + symbol + " of " + symbols, got, symbol < symbols ? 1 : -1 - last);
                if (symbol >= symbols) {
                    due.is("the end behind it", Due.read(x, "u -0." + symbol), -1 - last);
                    due.is("no semicolon behind it", Due.read(x, "u -0." + symbol + "?"), -1 - last);
                }
            }
        }
        due.is("behind a cell of two digits", read("u -15.6;"), -7);
        due.is("as the second literal", read("u +0.0 -15.6;"), -12);
        for (int symbol = 0; symbol <= 5; symbol++) {
            String has = "u +7." + symbol;
            due.is("of a cell that has a literal, " + symbol, read(has + " +7.6;"), -11);
            due.is("of a cell that has a literal, " + symbol + ", two digits", read(has + " +7.10;"), -12);
        }
    }

    private static void literalsThatTheLineHas() {
        due.sentence("Promise 15: Wrong is the last byte of the symbol of a literal that the line has");
        due.is("twice", read("u +0.0 +0.0;"), -11);
        due.is("twice, that it is not", read("u -15.5 -15.5;"), -13);
        due.is("is and is not", read("u +15.5 -15.5;"), 1);
        due.is("another cell", read("u +14.5 +15.5;"), 1);
        due.is("another symbol", read("u +15.4 +15.5;"), 1);
        due.is("the same in the next line", read("u +0.0;u +0.0;"), 2);
        due.is("twice in the next line", read("u +0.0;u +1.0 +1.0;"), -18);
        due.is("twice, then the end", read("u +0.0 +0.0"), -11);
        due.is("twice, then a wrong byte", read("u +0.0 +0.0?"), -11);
        for (int size = 1; size <= 15; size++) {
            String text = "u" + literals(size);
            String last = text.substring(text.lastIndexOf(' '));
            due.is("the first of " + size + " again", read(text + " +0.0;"), -1 - text.length() - 4);
            due.is("the last of " + size + " again", read(text + last + ";"), -text.length() - last.length());
        }
        ProofChecker x = new ProofChecker(2, 2, 2);
        x.line(1, 0);
        x.literal(0, 0, true);
        due.is("the line ahead has it", Due.read(x, "u +0.0;"), 1);
        x.drop();
        due.is("a line that went had it", Due.read(x, "u +0.0;"), 1);
    }

    private static void seventeenthLiteral() {
        due.sentence("Promise 15: Wrong is the blank of a 17th literal");
        for (String head : new String[] {"r1", "u", "s10", "b"}) {
            String sixteen = head + literals(16);
            int want = -1 - sixteen.length();
            due.is("16", read(sixteen + ";"), 1);
            due.is("17", read(sixteen + " +0.5;"), want);
            due.is("a 17th that the line has", read(sixteen + " +0.0;"), want);
            due.is("a 17th of no cell", read(sixteen + " +16.0;"), want);
            due.is("a 17th, then the end", read(sixteen + " "), want);
            due.is("a 17th in the second line", read("u;" + sixteen + " +0.5;"), want - 2);
            due.is("16, then 16 in the next line", read(sixteen + ";" + sixteen + ";"), 2);
            due.is("16, then the end", read(sixteen), want);
        }
    }

    private static void sixtyFirstLine() {
        due.sentence("Promise 15: Wrong is the semicolon of a 61st line");
        for (int ahead = 0; ahead <= 60; ahead++) {
            ProofChecker x = new ProofChecker(2, 2, 2);
            for (int line = 0; line < ahead; line++) {
                x.line(1, 0);
            }
            String more = "u;".repeat(60 - ahead);
            due.is("61 behind " + ahead, Due.read(x, more + "r99 +3.1;"), -1 - more.length() - 8);
            due.is("60 behind " + ahead, Due.read(x, more), 60 - ahead);
            due.is("lines", lineCount(x), 60);
        }
        String sixty = "u;".repeat(60);
        due.is("60", read(sixty), 60);
        due.is("61", read(sixty + "u;"), -122);
        due.is("62", read(sixty + "u;u;"), -122);
        due.is("61, a wrong byte within the last", read(sixty + "u?"), -122);
        due.is("61, a literal of no cell within the last", read(sixty + "u +16.0;"), -125);
        due.is("61, a literal twice within the last", read(sixty + "u +0.0 +0.0;"), -131);
        due.is("61, 16 literals", read(sixty + "u" + literals(16) + ";"), -122 - literals(16).length());
        due.is("61, the blank of a 17th literal", read(sixty + "u" + literals(16) + " +0.5;"),
                -122 - literals(16).length());
        due.is("61, the end within the last", read(sixty + "u +0.0"), -127);
    }

    private static void endWithinALine() {
        due.sentence("Promise 15: Wrong is the end within a line (at the place behind the last byte)");
        String[] lines = {"r0;", "r12;", "u;", "s7;", "s99;", "b;", "r12 +3.2 -10.1 +15.5;", "b -0.0;"};
        for (String ahead : new String[] {"", "u;", "r99 +15.5;"}) {
            for (String line : lines) {
                for (int length = 1; length < line.length(); length++) {
                    String text = ahead + line.substring(0, length);
                    due.is("the end behind " + text, read(text), -1 - text.length());
                }
                due.is(ahead + line, read(ahead + line), ahead.isEmpty() ? 1 : 2);
            }
        }
        String last = "r12 +3.2 -10.1;";
        for (int length = 1; length < last.length(); length++) {
            int rest = 50 - length;
            String between = "u;".repeat(rest % 2 == 0 ? rest / 2 : (rest - 3) / 2) + "r1;".repeat(rest % 2);
            String text = sixLines().substring(0, 250) + between + last.substring(0, length);
            due.is("the end behind " + text.length() + " bytes", read(text), -301);
        }
    }

    private static void firstWrongByte() {
        due.sentence("Promise 15: -1 less the place of the first wrong byte");
        String text = sixLines();
        for (int place = 0; place < 300; place++) {
            due.is("a wrong byte at place " + place, read(text.substring(0, place) + "\0" + text.substring(place + 1)),
                    -1 - place);
            due.is("and another one behind it", read(text.substring(0, place) + "\u00ff"
                    + "?".repeat(299 - place)), -1 - place);
        }
    }
}
