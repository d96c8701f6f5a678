/** Part 1 of the terms, sentence by sentence: each edge that it names, and one beyond on either side. */
public final class TextEdgesTest {
    private static final String TWENTY = "--------------------";

    private static void due(int kind, int line, String text) {
        String shown = text.replace('\n', ';');
        Cells.due("read() of " + shown.substring(0, Math.min(shown.length(), 120)), Cells.fault(text), kind + 16 * line);
    }

    private static void fine(String text) {
        due(0, 0, text);
    }

    public static void main(String[] args) {
        mostBytes();
        usedUp();
        bytesThatWent();
        linesEnd();
        longestTokens();
        comments();
        everyByte();
        numbers();
        digitsAtMost();
        programNumbers();
        calledNumbers();
        oneLineEach();
        esOfLines();
        letters();
        kinds();
        parts();
        ends();
        comparesAreTwo();
        functionsEs();
        places();
        firstByTokens();
        openBlocks();
        signsWithinOneAnother();
        tokensAtMost();
        linesAtMost();
        programsAtMost();
        allAtMost();
        Cells.end();
    }

    /** A TAPE has at most 5,000 bytes. */
    private static void mostBytes() {
        int blanks = 0x20202020;
        int[] had = {4979, 4980, 4981, 4982, 4999, 5000};
        for (int bytes : had) {
            MillCell cell = new MillCell();
            Cells.tape(cell, " ".repeat(bytes));
            Cells.due("bytes", cell.back(0), bytes);
            int want = bytes <= 4980 ? bytes + 20 : -1;
            Cells.due("feed behind " + bytes, cell.feed(blanks, blanks, blanks, blanks, blanks), want);
            Cells.due("bytes then", cell.back(0), Math.max(want, bytes));
        }
        // The last one counts: with 5,000 bytes the PRINT's 5 is the last.
        MillCell cell = new MillCell();
        String text = "O 1\n" + " ".repeat(4989) + "PRINT 5";
        Cells.tape(cell, text);
        Cells.due("read() of 5,000", cell.read(), 0);
        cell.run(1, 1);
        Cells.dueReal("its last", cell.real(4, 0), 5);
    }

    /** read() uses it up. */
    private static void usedUp() {
        MillCell cell = new MillCell();
        Cells.tape(cell, "O 1\nPRINT 1");
        Cells.due("read()", cell.read(), 0);
        Cells.due("behind a fine one", cell.back(1), -1);
        Cells.due("behind a fine one", cell.back(0), 0);
        Cells.tape(cell, "O 1\nPRINT");
        Cells.due("read()", cell.read(), 2 + 32);
        Cells.due("behind a fault", cell.back(1), -1);
        Cells.tape(cell, "O 1\nPRINT 1");
        Cells.due("read()", cell.read(), 0);
        Cells.due("read() of nothing", cell.read(), 2 + 16);
    }

    /** What back() took is no part of the text, though it stood right behind it. */
    private static void bytesThatWent() {
        String[][] texts = {{"O 1\nRETURN", "S"}, {"O 1\nPRINT 12345678", "90"}, {"O 1\nPRINT 1", ".5"}, {"O 1\nPRINT 1", "EQ"},
            {"O 1\nPRINT 1", "\n$"}, {"O 1\nPRINT 1 ", "$"}, {"O 1\nF 1", " ("}, {"O 1", "00"}, {"O 1\nCALL 1", "A"}};
        for (String[] text : texts) {
            went(0, text[0], text[1]);
        }
        went(1 + 32, "O 1\nPRINT 1.", "5");
        went(1 + 32, "O 1\nPRINT 1 (so", ")");
        went(2 + 32, "O 1\nPRINT ", "1");
        went(2 + 32, "O 1\nPRINT ABS[1", "]");
        went(2 + 48, "O 1\nIF 1\n", "END");
        went(2 + 16, "O ", "1");
    }

    private static void went(int want, String text, String gone) {
        MillCell cell = new MillCell();
        Cells.tape(cell, text + gone);
        cell.back(gone.length());
        Cells.due("read() of " + text + " without " + gone, cell.read(), want);
    }

    /** LINES end at bytes 10. */
    private static void linesEnd() {
        fine("O 1\nPRINT 1");
        fine("O 1\nPRINT 1\n");
        fine("\nO 1\n\n\nPRINT 1\n\n");
        due(1, 1, "O 1\rPRINT 1");
        due(1, 1, "O 1\r\nPRINT 1");
        due(1, 2, "O 1\n\u0000");
        due(2, 1, "O 1 PRINT 1");
        due(2, 2, "O 1\nPRINT\n1");
    }

    /** TOKENS, each as long as can be, between them blanks (32) as one likes. */
    private static void longestTokens() {
        fine("O1\nPRINT1EQ1");
        fine("  O   1  \n  PRINT   1   EQ   1  ");
        fine("O 1\nG0X1Y-1");
        fine("O 1\nPRINT--1");
        fine("O 1\n#1=ABS[1]+#[1]");
        due(2, 2, "O 1\nPRINTX");
        due(2, 2, "O 1\nP RINT 1");
        due(2, 2, "O 1\nPRINT 1EQNE 1");
        due(2, 2, "O 1\nPRINT 1 2");
        due(2, 2, "O 1\nRETURNEND");
        due(1, 1, "O\t1");
    }

    /** Comments: ( and all up to the next ) on its LINE. */
    private static void comments() {
        fine("()O()1()\n()PRINT()1()");
        fine("O 1\n(()");
        fine("O 1 (( ( $ \u00ff \u0000 \t . 12345678901 o)\nPRINT 1");
        due(1, 2, "O 1\n(())");
        due(1, 2, "O 1\n)");
        due(1, 2, "O 1\n(");
        due(1, 2, "O 1\nPRINT 1 (\n)");
        due(1, 2, "O 1\nPRINT 1 () (");
        due(1, 1, "(O 1");
        due(2, 2, "O 1\nPRINT 1()2");
        due(2, 2, "O 1\nPR()INT 1");
        due(2, 1, "(O 1)");
        due(2, 2, "(a)\n(b)");
        MillCell cell = Cells.of("(1)", "O 1 (2)", "(3)", "PRINT 1 (4) + (5) 1");
        Cells.due("a comment is no TOKEN", cell.count(0), 6);
        Cells.due("a LINE of comments is nothing", cell.count(1), 2);
    }

    /** WORDS of capital letters, NUMBERS of digits, SIGNS # [ ] , = + - * /: all else but blanks and comments is none. */
    private static void everyByte() {
        for (int b = 0; b < 256; b++) {
            String text = "O 1\n" + (char) b;
            boolean token = b >= 'A' && b <= 'Z' || b >= '0' && b <= '9' || "#[],=+-*/".indexOf(b) >= 0;
            if (b == '\n' || b == ' ') {
                fine(text);
            } else {
                due(token ? 2 : 1, 2, text);
            }
            if (!token && b != ' ' && b != '\n') {
                due(1, 2, "O 1\nPRINT 1" + (char) b);
                due(1, 2, "O 1\nPRINT" + (char) b + "1");
            }
        }
    }

    /** A NUMBER: digits, perhaps a . and digits behind it: the whole of its digits, divided by 10 for each behind the . at once. */
    private static void numbers() {
        Cells.value("0", 0);
        Cells.value("00", 0);
        Cells.value("0.0", 0);
        Cells.value("9", 9);
        Cells.value("0.3", 3 / 10.0);
        Cells.value("00.30", 30 / 100.0);
        Cells.value("1.23456789", 123456789 / 1e8);
        Cells.value("0.99999999", 99999999 / 1e8);
        Cells.value("12345678.9", 123456789 / 10.0);
        Cells.value("999999999", 999999999);
        Cells.value("000000000", 0);
        Cells.value("000000001", 1);
        due(1, 2, "O 1\nPRINT 1.");
        due(1, 2, "O 1\nPRINT .5");
        due(1, 2, "O 1\nPRINT 1. 5");
        due(1, 2, "O 1\nPRINT 1 .5");
        due(1, 2, "O 1\nPRINT 1.5.");
        due(1, 2, "O 1\nPRINT 1.5.5");
        // A . without a digit right behind it is no part of the NUMBER, whatever is there.
        for (String behind : new String[] {"EQ 1", "+1", "/1", "]", "(x)5", ":5", ".5", "\n5", "#1"}) {
            due(1, 2, "O 1\nPRINT 1." + behind);
        }
    }

    /** 9 digits at most in all. */
    private static void digitsAtMost() {
        fine("O 1\nPRINT 123456789");
        fine("O 1\nPRINT 1.23456789");
        fine("O 1\nPRINT 000000000");
        fine("O 1\nPRINT 12345678.9");
        due(1, 2, "O 1\nPRINT 1234567890");
        due(1, 2, "O 1\nPRINT 0000000000");
        due(1, 2, "O 1\nPRINT 1.234567890");
        due(1, 2, "O 1\nPRINT 123456789.0");
        due(1, 2, "O 1\nPRINT 0.000000000");
        fine("O 000000001");
        due(1, 1, "O 0000000001");
    }

    /** PROGRAMS, one or more: a LINE O NUMBER (0 .. 99, no . ; none twice). */
    private static void programNumbers() {
        fine("O 0");
        fine("O 99");
        fine("O 099");
        due(2, 1, "O 100");
        due(2, 1, "O 999999999");
        due(2, 1, "O -1");
        due(2, 1, "O 1.0");
        due(2, 1, "O 0.5");
        due(2, 1, "O");
        due(2, 1, "O #1");
        due(2, 1, "O [1]");
        due(2, 1, "OO 1");
        fine("O 0\nO 1");
        due(2, 2, "O 0\nO 0");
        due(2, 2, "O 0\nO 00");
        due(2, 4, "O 99\nO 1\nPRINT 1\nO 99");
        due(2, 1, "");
        due(2, 1, "   ");
        due(2, 2, "\n");
        due(2, 1, "PRINT 1");
        due(2, 1, "END");
        due(2, 1, "RETURN\nO 1");
        fine("\n \n()\nO 1");
    }

    /** CALL NUMBER (0 .. 99, no .). */
    private static void calledNumbers() {
        fine("O 1\nCALL 0");
        fine("O 1\nCALL 99");
        due(2, 2, "O 1\nCALL 100");
        due(2, 2, "O 1\nCALL -1");
        due(2, 2, "O 1\nCALL 1.0");
        due(2, 2, "O 1\nCALL 0.0");
        due(2, 2, "O 1\nCALL");
        due(2, 2, "O 1\nCALL A 1");
        due(2, 2, "O 1\nCALL #1");
        due(2, 2, "O 1\nCALL 1 2");
        due(2, 2, "O 1\nCALL 1 , 2");
    }

    /** A LINE is one of these: what would be a second one can't stand there. */
    private static void oneLineEach() {
        String[] all = {"RETURN", "PRINT 1", "#1=1", "CALL 1", "F 1", "DROP 1", "ALARM 1", "FIT 1,1", "O 2", "IF 1", "TRY", "GUARD",
            "WHILE 1"};
        for (String first : all) {
            for (String second : all) {
                boolean letters = second.equals("F 1") && (first.equals("CALL 1"));
                if (!letters) {
                    due(2, 2, "O 1\n" + first + " " + second);
                }
            }
        }
        due(2, 3, "O 1\nIF 1\nEND END");
        due(2, 3, "O 1\nIF 1\nELSE END");
        due(2, 3, "O 1\nTRY\nON ANY PRINT 1\nEND");
        due(2, 3, "O 1\nTRY\nLAST PRINT 1\nEND");
    }

    /** As many Es as a LINE has, with , between. */
    private static void esOfLines() {
        String[] words = {"IF", "WHILE", "ALARM", "PRINT", "FIT", "DROP", "PUT", "MOVE", "RACK", "LOAD", "TAKE", "BACK", "RETURN", "TRY",
            "GUARD"};
        int[] many = {1, 1, 1, 1, 2, 1, 3, 5, 3, 3, 2, 2, 0, 0, 0};
        for (int w = 0; w < words.length; w++) {
            StringBuilder es = new StringBuilder();
            boolean block = "IF WHILE TRY GUARD".contains(words[w]);
            for (int n = 0; n <= 7; n++) {
                String text = "O 1\n" + words[w] + es + (block ? "\nEND" : "");
                if (n == many[w]) {
                    fine(text);
                } else {
                    due(2, 2, text);
                }
                es.append(n == 0 ? " 1" : ",1");
            }
            due(2, 2, "O 1\n" + words[w] + " ,");
            due(2, 2, "O 1\n" + words[w] + " 1,,1");
        }
        // Each of them is an E.
        fine("O 1\nFIT 1 LT 2,3 EQ 4\nPUT 1 LT 2,3 EQ 4,5 NE 6\nMOVE 1 LT 2,3 EQ 4,5 NE 6,7 GT 8,9 GE 1\nTAKE 1 LE 2,-1 EQ 3");
        due(2, 2, "O 1\n#1");
        due(2, 2, "O 1\n#1=");
        due(2, 2, "O 1\n#=1");
        due(2, 2, "O 1\n#1=1=1");
        due(2, 2, "O 1\n#1*2=1");
        due(2, 2, "O 1\n-#1=1");
        fine("O 1\n##[1+1]=1 EQ 1");
    }

    /** LETTER: a WORD of one letter but O; each once on its LINE; of a MOTION G M X Y Z F S P. */
    private static void letters() {
        StringBuilder all = new StringBuilder();
        for (char c = 'A'; c <= 'Z'; c++) {
            if ("GMXYZFSP".indexOf(c) >= 0) {
                fine("O 1\n" + c + " 1");
                due(2, 2, "O 1\n" + c + " 1 " + c + " 1");
            } else if (c != 'O') {
                due(2, 2, "O 1\n" + c + " 1");
                due(2, 2, "O 1\nF 1 " + c + " 1");
            }
            due(2, 2, "O 1\n" + c);
            due(2, 2, "O 1\nCALL 1 " + c);
            if (c != 'O') {
                fine("O 1\nCALL 1 " + c + " 1");
                due(2, 2, "O 1\nCALL 1 " + c + " 1 " + c + " 1");
                all.append(' ').append(c).append(" 1");
            }
        }
        due(2, 2, "O 1\nCALL 1 O 1");
        due(2, 2, "O 1\nF 1 O 1");
        fine("O 1\nCALL 1" + all);
        due(2, 2, "O 1\nCALL 1" + all + " A 1");
        due(2, 2, "O 1\nCALL 1" + all + " O 1");
        due(2, 2, "O 1\nCALL 1 AA 1");
        fine("O 1\nG 1 M 1 X 1 Y 1 Z 1 F 1 S 1 P 1");
        due(2, 2, "O 1\nG 1 M 1 X 1 Y 1 Z 1 F 1 S 1 P 1 G 1");
        // A FACTOR, not an E.
        for (String more : new String[] {"+1", "-1", "*1", "/1", " EQ 1", ",1"}) {
            due(2, 2, "O 1\nX 1" + more);
            due(2, 2, "O 1\nX 1" + more + " Y 1");
            due(2, 2, "O 1\nCALL 1 A 1" + more);
        }
        fine("O 1\nX[1+1]Y-1Z#1F ABS[1]S VACANT P FEED");
    }

    /** KIND: NONE PLACE SIZE KIND STORE ZERO VACANT LIMIT LACK RAISED ANY. */
    private static void kinds() {
        for (String kind : "NONE PLACE SIZE KIND STORE ZERO VACANT LIMIT LACK RAISED ANY".split(" ")) {
            fine("O 1\nTRY\nON " + kind + "\nEND");
        }
        for (String kind : "STEPS DEEP WORN FULL NON NONEE 1 # ALL O FEED".split(" ")) {
            due(2, 3, "O 1\nTRY\nON " + kind + "\nEND");
        }
        due(2, 3, "O 1\nTRY\nON\nEND");
        due(2, 3, "O 1\nTRY\nON NONE ZERO\nEND");
    }

    /** IF has perhaps an ELSE, TRY any ONs, then perhaps a LAST. */
    private static void parts() {
        String[] blocks = {"IF 1", "WHILE 1", "TRY", "GUARD"};
        for (String block : blocks) {
            boolean tries = block.equals("TRY");
            fine("O 1\n" + block + "\nEND");
            part(block.equals("IF 1"), 3, "O 1\n" + block + "\nELSE\nEND");
            part(tries, 3, "O 1\n" + block + "\nON ANY\nEND");
            part(tries, 3, "O 1\n" + block + "\nLAST\nEND");
            // The parts are of the innermost block.
            if (!tries) {
                due(2, 4, "O 1\nTRY\n" + block + "\nON ANY\nEND\nEND");
                due(2, 4, "O 1\nTRY\n" + block + "\nLAST\nEND\nEND");
            }
            fine("O 1\nTRY\n" + block + "\nEND\nON ANY\nEND");
        }
        due(2, 4, "O 1\nIF 1\nELSE\nELSE\nEND");
        due(2, 4, "O 1\nIF 1\nELSE\nON ANY\nEND");
        fine("O 1\nTRY\nON ANY\nON ANY\nON NONE\nLAST\nEND");
        due(2, 4, "O 1\nTRY\nLAST\nLAST\nEND");
        due(2, 4, "O 1\nTRY\nLAST\nON ANY\nEND");
        due(2, 4, "O 1\nTRY\nON ANY\nELSE\nEND");
        due(2, 4, "O 1\nTRY\nLAST\nELSE\nEND");
        for (String part : new String[] {"ELSE", "ON ANY", "LAST", "END"}) {
            due(2, 2, "O 1\n" + part);
            due(2, 4, "O 1\nIF 1\nEND\n" + part);
        }
    }

    private static void part(boolean stands, int line, String text) {
        if (stands) {
            fine(text);
        } else {
            due(2, line, text);
        }
    }

    /** IF, WHILE, TRY, GUARD go on up to their END, in their PROGRAM; of the end the LINE is the last one. */
    private static void ends() {
        for (String block : new String[] {"IF 1", "WHILE 1", "TRY", "GUARD", "TRY\nON ANY", "TRY\nLAST", "IF 1\nELSE"}) {
            int line = 2 + (block.contains("\n") ? 1 : 0);
            due(2, line, "O 1\n" + block);
            due(2, line + 1, "O 1\n" + block + "\n");
            due(2, line + 3, "O 1\n" + block + "\n\n\n");
            due(2, line + 1, "O 1\n" + block + "\nO 2\nEND");
            fine("O 1\n" + block + "\nEND\nO 2");
            due(2, line + 2, "O 1\n" + block + "\nEND\nEND");
            due(2, line + 2, "O 1\nIF 1\n" + block + "\nEND");
        }
    }

    /** E: SUM, or two SUMS with EQ NE LT LE GT GE between. */
    private static void comparesAreTwo() {
        for (String word : "EQ NE LT LE GT GE".split(" ")) {
            fine("O 1\nPRINT 1 " + word + " 1");
            fine("O 1\nPRINT [1 " + word + " 1] " + word + " 1");
            due(2, 2, "O 1\nPRINT 1 " + word + " 1 " + word + " 1");
            due(2, 2, "O 1\nPRINT 1 " + word);
            due(2, 2, "O 1\nPRINT " + word + " 1");
        }
        for (String sign : "+ * /".split(" ")) {
            due(2, 2, "O 1\nPRINT " + sign + " 1");
            due(2, 2, "O 1\nPRINT 1 " + sign);
            due(2, 2, "O 1\nPRINT 1 " + sign + " " + sign + " 1");
            fine("O 1\nPRINT 1 " + sign + " - 1");
        }
        due(2, 2, "O 1\nPRINT -");
        due(2, 2, "O 1\nPRINT #");
        due(2, 2, "O 1\nPRINT []");
        due(2, 2, "O 1\nPRINT [1");
        due(2, 2, "O 1\nPRINT [1,1]");
        due(2, 2, "O 1\nPRINT ]");
    }

    /** A FUNCTION: a WORD, [ , as many Es as told with , between, ]. */
    private static void functionsEs() {
        String[] words = {"ABS FIX FUP RND SQRT SGN ULP NXT INT VAC LEN POS LONG SING HELD",
            "MIN MAX CPS MOD DIV REM AND OR XOR SHL SHR PORT",
            "MID"};
        for (int many = 1; many <= 3; many++) {
            for (String word : words[many - 1].split(" ")) {
                String es = "1";
                for (int n = 1; n <= 4; n++) {
                    if (n == many) {
                        fine("O 1\nPRINT " + word + "[" + es + "]");
                    } else {
                        due(2, 2, "O 1\nPRINT " + word + "[" + es + "]");
                    }
                    es = es + ",1";
                }
                due(2, 2, "O 1\nPRINT " + word);
                due(2, 2, "O 1\nPRINT " + word + "[]");
                due(2, 2, "O 1\nPRINT " + word + " 1 1]");
                due(2, 2, "O 1\nPRINT " + word + " - 1]");
                due(2, 2, "O 1\nPRINT " + word + "S[1]");
            }
        }
        fine("O 1\nPRINT ABS[1 EQ 2]+MIN[1 NE 2,3 LT 4]+MID[1 LE 2,3 GT 4,5 GE 6]");
        Cells.value("MIN[2 GT 1,1-1 LT 1]+MID[3,1 EQ 1,5 LT 6]", 2);
        for (String word : "VACANT FEED WHY WHAT".split(" ")) {
            fine("O 1\nPRINT " + word);
            due(2, 2, "O 1\nPRINT " + word + "[1]");
        }
        due(2, 2, "O 1\nPRINT NONE");
        due(2, 2, "O 1\nPRINT [1");
    }

    /** At a LINE's end: at its last place, this LINE; of the end the last one: one more than there are 10s. */
    private static void places() {
        due(2, 2, "O 1\nPRINT\n\n\n");
        due(2, 2, "O 1\nPRINT (what)   \n\n");
        due(2, 5, "O 1\n\n\n\nPRINT");
        due(2, 1, "O\n1");
        due(2, 3, "O 1\n\nIF 1");
        due(2, 4, "O 1\n\nIF 1\n");
        due(2, 5001, "\n".repeat(5000));
        due(2, 4997, "O 1" + "\n".repeat(4996) + "]");
        fine("O 1" + "\n".repeat(4997));
        fine("\n".repeat(4997) + "O 1");
    }

    /** The first one by the TOKENS, of one the least. */
    private static void firstByTokens() {
        due(2, 2, "O 1\nPRINT 1 1 $");
        due(1, 2, "O 1\nPRINT 1 $ 1");
        due(2, 2, "O 1\nPRINT ]\nPRINT $");
        due(1, 2, "O 1\nPRINT $\nPRINT ]");
        due(1, 1, "$");
        // In place of what is wanted, or behind what is whole: none is none.
        for (String start : new String[] {"", "O", "O 1\nPRINT", "O 1\nPRINT 1", "O 1\n#1", "O 1\nCALL", "O 1\nIF 1\nELSE",
            "O 1\nTRY\nON", "O 1\nPRINT ABS"}) {
            int line = start.length() - start.replace("\n", "").length() + 1;
            due(1, line, start + " $");
            due(1, line, start + " (");
            due(1, line, start + " 1234567890");
        }
        // A LETTER twice and a PROGRAM's NUMBER twice are met at that TOKEN.
        due(2, 2, "O 1\nX 1 X $");
        due(2, 2, "O 1\nO 1 $");
        due(1, 2, "O 1\nX 1 $ X 1");
    }

    /** 3 what would be the 11th of IF, WHILE, TRY, GUARD within one another. */
    private static void openBlocks() {
        for (String block : new String[] {"IF 1\n", "WHILE 1\n", "TRY\n", "GUARD\n"}) {
            fine("O 1\n" + block.repeat(10) + "END\n".repeat(10));
            due(3, 12, "O 1\n" + block.repeat(11) + "END\n".repeat(11));
            due(3, 12, "O 1\n" + "GUARD\n".repeat(10) + block + "END\n".repeat(11));
            fine("O 1\n" + "GUARD\n".repeat(9) + (block + "END\n").repeat(3) + "END\n".repeat(9));
            due(2, 12, "O 1\n" + block.repeat(10) + "O 2");
        }
        // Parts are no blocks of their own.
        fine("O 1\n" + "TRY\nON ANY\n".repeat(5) + "TRY\nLAST\n".repeat(5) + "END\n".repeat(10));
        due(3, 22, "O 1\n" + "IF 1\nELSE\n".repeat(10) + "IF $");
        // Each PROGRAM begins anew.
        fine("O 1\n" + "TRY\n".repeat(10) + "END\n".repeat(10) + "O 2\n" + "TRY\n".repeat(10) + "END\n".repeat(10));
    }

    /** Or the 21st of [ , - and # (a sign ahead of a FACTOR), within one another. */
    private static void signsWithinOneAnother() {
        fine("O 1\nPRINT " + TWENTY + "1");
        due(3, 2, "O 1\nPRINT " + TWENTY + "-1");
        fine("O 1\nPRINT " + "#".repeat(20) + "1");
        due(3, 2, "O 1\nPRINT " + "#".repeat(21) + "1");
        fine("O 1\nPRINT " + "[".repeat(20) + "1" + "]".repeat(20));
        due(3, 2, "O 1\nPRINT " + "[".repeat(21) + "1" + "]".repeat(21));
        fine("O 1\nPRINT " + "ABS[".repeat(20) + "1" + "]".repeat(20));
        due(3, 2, "O 1\nPRINT " + "ABS[".repeat(21) + "1" + "]".repeat(21));
        for (String last : new String[] {"-1", "#1", "[1]", "ABS[1]", "MIN[1,1]", "MID[1,1,1]"}) {
            fine("O 1\nPRINT " + TWENTY.substring(1) + last);
            due(3, 2, "O 1\nPRINT " + TWENTY + last);
            due(3, 2, "O 1\nX " + TWENTY + last);
            due(3, 2, "O 1\nCALL 1 A " + TWENTY + last);
            due(3, 2, "O 1\nPRINT 1 EQ 1+2*" + TWENTY + last);
        }
        // A - or + between TERMS is none of them, and side by side they begin anew.
        fine("O 1\nPRINT " + "1-".repeat(40) + TWENTY + "1-" + TWENTY + "1");
        fine("O 1\nPRINT " + "[1]*".repeat(40) + "1");
        fine("O 1\nPRINT MID[" + TWENTY.substring(1) + "1," + TWENTY.substring(1) + "1," + TWENTY.substring(1) + "1]");
        // The # that begins a LINE is ahead of a FACTOR, too; what is behind its = is not within it.
        fine("O 1\n" + "#".repeat(20) + "1=1");
        due(3, 2, "O 1\n" + "#".repeat(21) + "1=1");
        fine("O 1\n#1=" + TWENTY + "1");
        // The 21st itself is the fault, whatever comes behind it.
        due(3, 2, "O 1\nPRINT " + TWENTY + "-$");
        due(2, 2, "O 1\nPRINT " + TWENTY + "ABS");
        due(2, 2, "O 1\nPRINT " + TWENTY + "1 -");
    }

    private static String tokens(int many) {
        StringBuilder s = new StringBuilder("O1\nPRINT 1");
        int left = many - 4;
        if (left % 2 == 1) {
            s.append("\nRETURN");
            left--;
        }
        int line = s.indexOf("\nRETURN");
        String sums = "+1".repeat(left / 2);
        return line < 0 ? s + sums : s.insert(line, sums).toString();
    }

    /** 4 more than 1,000 TOKENS (without 10s). */
    private static void tokensAtMost() {
        fine(tokens(999));
        fine(tokens(1000));
        due(4, 0, tokens(1001));
        due(4, 0, tokens(1002));
        fine(tokens(1000) + "\n".repeat(500) + "(one more)");
        // Else: another fault, wherever it is, is told instead.
        due(2, 3, tokens(1500) + "\nEND");
        due(1, 3, tokens(1500) + "\n$");
        due(3, 3, tokens(1500) + "\nPRINT " + TWENTY + "-1");
        MillCell cell = new MillCell();
        Cells.tape(cell, tokens(1000));
        Cells.due("read()", cell.read(), 0);
        Cells.due("count(0)", cell.count(0), 1000);
        Cells.tape(cell, tokens(1001));
        Cells.due("read()", cell.read(), 4);
        Cells.due("there is no program then", Cells.thrown(cell, 1, 9), Cells.STATE);
    }

    /** 250 LINES that are not nothing. */
    private static void linesAtMost() {
        fine("O 1" + "\nRETURN".repeat(249));
        due(4, 0, "O 1" + "\nRETURN".repeat(250));
        fine("O 1" + "\n()\n\nRETURN".repeat(249) + "\n\n\n");
        due(2, 252, "O 1" + "\nRETURN".repeat(250) + "\nEND");
        // Blocks, ONs and CALLS on either side of the most.
        for (int ahead = 244; ahead <= 252; ahead++) {
            String text = "O 1" + "\nF 1".repeat(ahead - 1);
            int lines = ahead + 6;
            sized(lines, text + "\nTRY\nON ANY\nON ZERO\nLAST\nCALL 7 A 1\nEND");
            sized(lines, text + "\nIF 1\nPUT 1,2,3\nELSE\n#1=2\nX 3\nEND");
            sized(lines, text + "\nWHILE 1\nGUARD\nTRY\nEND\nEND\nEND");
            sized(ahead + 1, text + "\nO 2");
        }
        MillCell cell = new MillCell();
        Cells.tape(cell, "O 1" + "\nF 1".repeat(244) + "\nTRY\nALARM 1\nON ANY\nPRINT 1\nEND");
        Cells.due("read()", cell.read(), 0);
        Cells.due("count(1)", cell.count(1), 250);
        Cells.due("run(1, 999)", cell.run(1, 999), 0);
        Cells.due("told(7)", cell.told(7), 1);
    }

    private static void sized(int lines, String text) {
        due(lines <= 250 ? 0 : 4, 0, text);
    }

    private static String programs(int many) {
        StringBuilder s = new StringBuilder();
        for (int n = 0; n < many; n++) {
            s.append("O ").append(99 - n).append('\n');
        }
        return s.toString();
    }

    /** 12 PROGRAMS. */
    private static void programsAtMost() {
        fine(programs(11));
        fine(programs(12));
        due(4, 0, programs(13));
        due(4, 0, programs(100));
        due(2, 101, programs(100) + "O 0");
        MillCell cell = new MillCell();
        Cells.tape(cell, programs(12) + "PRINT 3");
        Cells.due("read()", cell.read(), 0);
        Cells.due("count(2)", cell.count(2), 12);
        for (int o = 87; o <= 100; o++) {
            Cells.due("run(" + o + ", 9)", Cells.thrown(cell, o, 9), o >= 88 && o <= 99 ? Cells.NOTHING : Cells.ARGUMENT);
        }
        Cells.due("run(88, 9)", cell.run(88, 9), 0);
        Cells.due("told(7)", cell.told(7), 1);
    }

    /** All three at once. */
    private static void allAtMost() {
        // 12 PROGRAMS have 24 TOKENS, 238 LINES F 1 476, so that 500 are left for sums.
        String text = programs(12) + "F 1\n".repeat(237) + "PRINT 1";
        int tokens = 24 + 2 * 237 + 2;
        fine(text + "+1".repeat((1000 - tokens) / 2));
        due(4, 0, text + "+1".repeat((1000 - tokens) / 2 + 1));
        MillCell cell = new MillCell();
        Cells.tape(cell, text + "+1".repeat((1000 - tokens) / 2));
        cell.read();
        Cells.due("count(0)", cell.count(0), 1000);
        Cells.due("count(1)", cell.count(1), 250);
        Cells.due("count(2)", cell.count(2), 12);
    }
}
