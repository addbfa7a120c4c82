/** Promises 14 and 15: bytes to be read, and how they are read. */
public final class ReadTest {
    private static final Due due = new Due();

    public static void main(String[] args) {
        unit();
        linesRead();
        wrongBytes();
        numbers();
        ends();
        cellsAndSymbols();
        literalsOfOneLine();
        linesAtMost();
        everyByteInEachPlace();
        due.end();
    }

    private static void unit() {
        ProofChecker x = new ProofChecker(2, 2, 2);
        due.is("unit(-1)", x.unit(-1), false);
        due.is("unit(256)", x.unit(256), false);
        due.is("unit(MIN)", x.unit(Integer.MIN_VALUE), false);
        due.is("unit('u' + 256)", x.unit('u' + 256), false);
        due.is("nothing came", x.read(), 0);
        due.is("unit(0)", x.unit(0), true);
        due.is("unit(255)", x.unit(255), true);
        due.is("wrong from the first byte on", x.read(), -1);
        for (int n = 0; n < 300; n++) {
            due.is("unit " + n, x.unit(n == 0 ? 'u' : n == 299 ? '!' : ';'), true);
        }
        due.is("a 301st", x.unit(';'), false);
        due.is("the second semicolon", x.read(), -3);
        due.is("what came is gone", x.read(), 0);
        due.is("there is room again", x.unit(0), true);
    }

    private static int read(String text) {
        return Due.read(new ProofChecker(2, 2, 3), text);
    }

    private static void linesRead() {
        ProofChecker x = new ProofChecker(4, 4, 6);
        x.line(1, 5);
        due.is("four lines", Due.read(x, "r99 +15.5 -0.0;u;s10 -10.3;b -9.5;"), 4);
        int[][] dues = {{1, 5, 0}, {0, 99, 2, 191, 0}, {1, 0, 0}, {2, 10, 1, 126}, {3, 0, 1, 118}};
        for (int line = 0; line < dues.length; line++) {
            for (int what = 0; what < dues[line].length; what++) {
                due.is("tell(" + line + ", " + what + ")", x.tell(line, what), dues[line][what]);
            }
        }
        due.isThrown("tell(5, 0)", Due.NO_INDEX, () -> x.tell(5, 0));
        due.is("a wrong second line", Due.read(x, "u +1.1;u?"), -9);
        due.isThrown("then none comes", Due.NO_INDEX, () -> x.tell(5, 0));
        due.is("a line after that", x.line(1, 0), 5);
        due.is("it has no literals", x.tell(5, 2), 0);
        due.is("literals come to a line that was read", literalBehindRead(), true);
    }

    private static boolean literalBehindRead() {
        ProofChecker x = new ProofChecker(2, 2, 3);
        Due.read(x, "u +0.0;");
        return !x.literal(0, 0, true) && x.literal(0, 1, true) && x.tell(0, 2) == 2;
    }

    private static void wrongBytes() {
        due.is("x", read("x"), -1);
        due.is(";", read(";"), -1);
        due.is("U;", read("U;"), -1);
        due.is(" u;", read(" u;"), -1);
        due.is("u ;", read("u ;"), -3);
        due.is("u  +0.0;", read("u  +0.0;"), -3);
        due.is("u+0.0;", read("u+0.0;"), -2);
        due.is("u0;", read("u0;"), -2);
        due.is("b0;", read("b0;"), -2);
        due.is("r;", read("r;"), -2);
        due.is("s +0.0;", read("s +0.0;"), -2);
        due.is("r-1;", read("r-1;"), -2);
        due.is("u 0.0;", read("u 0.0;"), -3);
        due.is("u +.0;", read("u +.0;"), -4);
        due.is("u +0,0;", read("u +0,0;"), -5);
        due.is("u +0.;", read("u +0.;"), -6);
        due.is("u +0.0+1.0;", read("u +0.0+1.0;"), -7);
        due.is("u +0.0.0;", read("u +0.0.0;"), -7);
        due.is("u; u;", read("u; u;"), -3);
        due.is("u;\\n", read("u;\n"), -3);
        due.is("u;;", read("u;;"), -3);
        due.is("uu;", read("uu;"), -2);
    }

    private static void numbers() {
        due.is("r0;", read("r0;"), 1);
        due.is("r9;r10;s99;", read("r9;r10;s99;"), 3);
        due.is("r00;", read("r00;"), -3);
        due.is("r01;", read("r01;"), -3);
        due.is("r100;", read("r100;"), -4);
        due.is("s999;", read("s999;"), -4);
        due.is("u +01.0;", read("u +01.0;"), -5);
        due.is("u +1.01;", read("u +1.01;"), -7);
        due.is("r/;", read("r/;"), -2);
        due.is("r:;", read("r:;"), -2);
        due.is("r1:", read("r1:"), -3);
    }

    private static void ends() {
        String whole = "r12 +3.2 -0.1;";
        for (int length = 1; length < whole.length(); length++) {
            due.is("the end behind " + length + " bytes", read(whole.substring(0, length)), -1 - length);
            due.is("the end of a second line behind " + length,
                    read("u;" + whole.substring(0, length)), -3 - length);
        }
        due.is(whole, read(whole), 1);
        due.is("u", read("u"), -2);
        due.is("b", read("b"), -2);
        String[] tails = {"u", "r", "r1", "u ", "u +", "u +0", "u +1", "u +1.", "u +1.0", "u +1.1"};
        String full = "u +0.0 +0.1 +0.2 -0.0 -0.1 -0.2 +1.0;".repeat(8);
        for (String tail : tails) {
            StringBuilder text = new StringBuilder(full.substring(0, full.length() - 37));
            while (text.length() + tail.length() < 300) {
                text.append((300 - text.length() - tail.length()) % 2 == 0 ? "u;" : "r1;");
            }
            due.is("the end behind 300 bytes and " + tail, read(text + tail), -301);
        }
    }

    private static void cellsAndSymbols() {
        due.is("cell 3 of 4", read("u +3.0;"), 1);
        due.is("cell 4 of 4", read("u +4.0;"), -4);
        due.is("cell 12 of 4", read("u +12.0;"), -5);
        due.is("cell 41 of 4", read("u +41.0;"), -5);
        due.is("cell 123 of 4", read("u +123.0;"), -5);
        due.is("cell 4 of 4, then the end", read("u +4"), -4);
        due.is("cell 4 of 4, then no point", read("u +4?"), -4);
        due.is("symbol 2 of 3", read("u +0.2;"), 1);
        due.is("symbol 3 of 3", read("u +0.3;"), -6);
        due.is("symbol 10 of 3", read("u +0.10;"), -7);
        due.is("symbol 3 of 3, then the end", read("u +0.3"), -6);
        due.is("symbol 100 of 3", read("u +0.100;"), -7);
        ProofChecker large = new ProofChecker(4, 4, 6);
        due.is("cell 15 of 16", Due.read(large, "u +15.5;"), 1);
        due.is("cell 16 of 16", Due.read(large, "u +16.5;"), -5);
        due.is("cell 150 of 16", Due.read(large, "u +150.5;"), -6);
        due.is("symbol 6 of 6", Due.read(large, "u +15.6;"), -7);
        due.is("rules and cells of splits need not be", Due.read(large, "r99;s99;"), 2);
    }

    private static void literalsOfOneLine() {
        due.is("a literal twice", read("u +0.0 +0.0;"), -11);
        due.is("a literal twice, with one between", read("u +0.0 -0.0 +0.0;"), -16);
        due.is("is and is not", read("u +0.0 -0.0;"), 1);
        due.is("a literal twice, then a digit", read("u +0.0 +0.01;"), -11);
        due.is("the same in the next line", read("u +0.0;u +0.0;"), 2);
        StringBuilder sixteen = new StringBuilder("u");
        for (int n = 0; n < 16; n++) {
            sixteen.append(n % 2 == 0 ? " +" : " -").append(n / 6).append('.').append(n / 2 % 3);
        }
        due.is("16 literals", read(sixteen + ";"), 1);
        due.is("17 literals", read(sixteen + " +3.2;"), -1 - sixteen.length());
        due.is("a 17th that the line has", read(sixteen + " +0.0;"), -1 - sixteen.length());
        due.is("the blank of a 17th, then the end", read(sixteen + " "), -1 - sixteen.length());
        due.is("16 literals, then the end", read(sixteen.toString()), -1 - sixteen.length());
    }

    private static void linesAtMost() {
        String sixty = "u;".repeat(60);
        due.is("60 lines", read(sixty), 60);
        due.is("61 lines", read(sixty + "u;"), -122);
        due.is("61 lines, the last one wrong ahead of its end", read(sixty + "u +4.0;"), -124);
        due.is("61 lines, the last one with literals", read(sixty + "u +0.0 -1.1;"), -132);
        due.is("61 lines, the last one without an end", read(sixty + "u"), -122);
        ProofChecker x = new ProofChecker(2, 2, 3);
        for (int n = 0; n < 58; n++) {
            x.line(1, 0);
        }
        due.is("three lines behind 58", Due.read(x, "u;u;r1 +0.0;"), -12);
        due.isThrown("none of them came", Due.NO_INDEX, () -> x.tell(58, 0));
        due.is("two lines behind 58", Due.read(x, "u;r1 +0.0;"), 2);
        due.is("nothing behind 60", x.read(), 0);
        due.is("one line behind 60", Due.read(x, "b;"), -2);
        due.is("the 60th is as it was", x.tell(59, 1), 1);
    }

    /** Puts every byte in the place of each byte of a line; only these few may stand there. */
    private static void everyByteInEachPlace() {
        String line = "s2 +1.1 -2.2;";
        String[] fine = {"rs", "0123456789", " ", "+-", "0123", ".", "012", " ", "+-", "0123", ".", "012", ";"};
        ProofChecker x = null;
        for (int place = 0; place < line.length(); place++) {
            for (int u = 0; u < 256; u++) {
                x = new ProofChecker(2, 2, 3);
                for (int i = 0; i < line.length(); i++) {
                    x.unit(i == place ? u : line.charAt(i));
                }
                boolean stands = fine[place].indexOf(u) >= 0;
                int want = stands ? 1 : otherPlace(place, u);
                due.is("byte " + u + " at place " + place, x.read(), want);
            }
        }
    }

    /** Where a byte that is wrong (or makes a later one wrong) is noticed. */
    private static int otherPlace(int place, int u) {
        boolean digit = u >= '0' && u <= '9';
        if (place == 0 && (u == 'u' || u == 'b')) {
            return -2;
        }
        if (place == 2 && (digit || u == ';')) {
            return -4;
        }
        if (place == 7 && u == ';') {
            return -9;
        }
        if (place == 12 && u == ' ') {
            return -14;
        }
        return -1 - place;
    }
}
