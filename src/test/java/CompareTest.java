import java.util.Random;

/** MillCell against ReferenceCell on many texts: whole programs, spoilt ones, and REALS of any bits. */
public final class CompareTest {
    private static final String[] NUMBERS = {"0", "1", "2", "3", "4", "5", "6", "7", "8", "10", "26", "27", "99", "100",
        "101", "102", "149", "150", "0.5", "1.5", "2.5", "0.1", "33.3", "250", "1000", "1000.5", "999999999", "0.00000001",
        "1000000", "1000001", "70000.7", "3000000000", "65535.9"};
    private static final String[] ONE = "ABS FIX FUP RND SQRT SGN ULP NXT INT VAC LEN POS LONG SING HELD".split(" ");
    private static final String[] TWO = "MIN MAX CPS MOD DIV REM AND OR XOR SHL SHR PORT".split(" ");
    private static final String[] COMPARE = "EQ NE LT LE GT GE".split(" ");
    private static final String[] KINDS =
        "NONE PLACE SIZE KIND STORE ZERO VACANT LIMIT LACK RAISED ANY ANY ANY".split(" ");

    private final Random random;
    private StringBuilder text;
    private int lines;
    // Whether each alarm of the main program is taken, so that the run goes on.
    private boolean calm;

    private CompareTest(long seed) {
        random = new Random(seed);
    }

    private int up(int n) {
        return random.nextInt(n);
    }

    private String any(String... words) {
        return words[up(words.length)];
    }

    private String number() {
        String n = any(NUMBERS);
        return n.length() == 10 && !n.contains(".") ? "[300000000*10]" : n;
    }

    private String e(int depth) {
        return up(6) == 0 ? sum(depth) + " " + any(COMPARE) + " " + sum(depth) : sum(depth);
    }

    private String sum(int depth) {
        String s = term(depth);
        while (depth > 0 && up(3) == 0) {
            s = s + any("+", "-", " + ", " - ") + term(depth);
        }
        return s;
    }

    private String term(int depth) {
        String s = factor(depth);
        while (depth > 0 && up(4) == 0) {
            s = s + any("*", "/") + factor(depth);
        }
        return s;
    }

    private String factor(int depth) {
        switch (depth <= 0 ? up(6) : up(12)) {
            case 0: case 1: case 2:
                return number();
            case 3:
                return "#" + (up(30) == 0 ? any("27", "0", "150", "99") : any("1", "2", "3", "24", "26", "100", "101", "149"));
            case 4:
                return any("VACANT", "WHY", "WHAT", "1", "2", "3", up(3) == 0 ? "FEED" : "1");
            case 5:
                return "-" + factor(depth - 1);
            case 6:
                return "[" + e(depth - 1) + "]";
            case 7: case 8:
                String one = any(ONE);
                boolean numbered = (one.equals("LEN") || one.equals("POS") || one.equals("HELD")) && up(8) > 0;
                return one + "[" + (numbered ? Integer.toString(up(3)) : e(depth - 1)) + "]";
            case 9: case 10:
                if (up(4) == 0) {
                    return "PORT[" + small(8) + "," + small(4) + "]";
                }
                return any(TWO) + "[" + e(depth - 1) + "," + e(depth - 1) + "]";
            default:
                return up(3) == 0 ? "#" + factor(depth - 1)
                    : "MID[" + e(depth - 1) + "," + e(depth - 1) + "," + e(depth - 1) + "]";
        }
    }

    private String small(int n) {
        return up(25) == 0 ? e(1) : up(60) == 0 ? "-1" : Integer.toString(up(n));
    }

    private void add(String line) {
        text.append(line);
        if (up(20) == 0) {
            text.append(any(" ", "  (note)", "(x)"));
        }
        text.append('\n');
        lines++;
        if (up(30) == 0) {
            text.append(any("\n", "  \n", "(nothing)\n"));
        }
    }

    private String motion() {
        StringBuilder s = new StringBuilder();
        if (up(3) > 0) {
            s.append("G").append(any("0", "1", "1", "1", "4", "54", "55", "56", "57", "81", "84", "90", "91", "92", "1.9",
                "2", "81", "84", "-0.5", "[-1]"));
        }
        if (up(6) == 0) {
            s.append(" M").append(any("3", "3", "3", "5", "8", "9", "4", "3.5"));
        }
        for (char c : "XYZ".toCharArray()) {
            if (up(2) == 0) {
                s.append(' ').append(c).append(up(12) == 0 ? " " + factor(1)
                    : up(10) == 0 ? any("1000", "-1000", "1000.1", "-1001", "0")
                    : (up(2) == 0 ? "-" : "") + up(200) + "." + up(100));
            }
        }
        if (up(4) == 0) {
            s.append(" F").append(any("0", "100", "250.5", "1000000", "0.25", "1000000.1", "-1", "4000"));
        }
        if (up(5) == 0) {
            s.append(" S").append(any("0", "100", "800", "12.5", "1000001", "-5", "0"));
        }
        if (up(5) == 0) {
            s.append(" P ").append(any("0", "250", "1.5", "-1", "-0", "[1/0]", "VACANT"));
        }
        return s.length() == 0 ? "F 100" : s.toString().trim();
    }

    private void line(int depth) {
        switch (up(depth > 0 ? 27 : 21)) {
            case 0: case 1: case 2:
                add("PRINT " + e(3));
                break;
            case 3: case 4:
                add("#" + any("1", "2", "3", "100", "101", "102", "26", "[99+#1]") + "=" + e(2));
                break;
            case 5: case 6: case 7: case 8:
                add(motion());
                break;
            case 20:
                for (int n = up(5); n >= 0; n--) {
                    add(motion());
                }
                break;
            case 9:
                add("FIT " + small(9) + "," + (up(40) == 0 ? "60000" : small(20)));
                break;
            case 10:
                add("PUT " + small(8) + "," + small(10) + "," + e(2));
                break;
            case 11:
                String b = small(8);
                add("MOVE " + b + "," + small(6) + "," + (up(6) == 0 ? small(8) : b) + "," + small(6) + "," + small(8));
                break;
            case 12:
                add("RACK " + small(4) + "," + small(6) + "," + small(6));
                break;
            case 13: case 14:
                add("LOAD " + small(4) + "," + small(4) + "," + small(6));
                break;
            case 15: case 16:
                add((up(3) > 0 ? "TAKE " : "BACK ") + small(4) + "," + small(4));
                break;
            case 17:
                add(any("ALARM " + e(1), "RETURN", "DROP " + small(8), "RETURN", "PRINT WHY", "PRINT WHAT"));
                break;
            case 18: case 19:
                StringBuilder call = new StringBuilder("CALL " + up(5));
                for (char c = 'A'; c <= 'Z'; c++) {
                    if (c != 'O' && up(12) == 0) {
                        call.append(' ').append(c).append(' ').append(factor(1));
                    }
                }
                add(call.toString());
                break;
            default:
                block(depth);
                break;
        }
    }

    private void some(int depth) {
        for (int n = up(4); n >= 0 && lines < 220 && text.length() < 2100; n--) {
            line(depth);
        }
    }

    private void block(int depth) {
        switch (up(6)) {
            case 0:
                add("IF " + e(2));
                some(depth - 1);
                if (up(2) == 0) {
                    add("ELSE");
                    some(depth - 1);
                }
                break;
            case 1:
                add("#3=0");
                add("WHILE #3 LT " + up(5));
                add("#3=#3+1");
                some(depth - 1);
                break;
            case 2:
                add("GUARD");
                some(depth - 1);
                break;
            default:
                add("TRY");
                some(depth - 1);
                for (int n = up(3); n > 0; n--) {
                    add("ON " + any(KINDS));
                    some(depth - 1);
                }
                if (up(2) == 0) {
                    add("LAST");
                    some(depth - 1);
                }
                break;
        }
        add("END");
    }

    /** So that not all that follows meets an alarm. */
    private void prelude() {
        for (int b = 0; b < 8; b++) {
            if (up(3) > 0) {
                add("FIT " + b + "," + (3 + up(8)));
            }
        }
        add("RACK 0,0,4");
        add("RACK 1," + up(6) + ",3");
        for (int p = 0; p < 4; p++) {
            add("LOAD 0," + p + "," + up(6));
        }
        if (up(4) > 0) {
            add("TAKE 0," + up(4));
        }
        add(any("G0", "G1", "G1", "G91", "G90 M3") + " F" + up(5000) + " S" + up(900));
        add("#1=" + up(5));
        add("#100=" + number());
        add("#101=" + number() + "/" + number());
    }

    private void guarded() {
        boolean held = calm || up(3) > 0;
        if (held) {
            add("TRY");
        }
        for (int n = up(3); n >= 0; n--) {
            line(held ? 2 : 3);
        }
        if (held) {
            add("ON ANY");
            if (up(2) == 0) {
                line(0);
            }
            add("END");
        }
    }

    private String programs() {
        text = new StringBuilder();
        lines = 0;
        int many = 1 + up(4);
        calm = up(3) > 0;
        for (int o = 0; o < many; o++) {
            add("O " + o);
            if (o == 0 && up(8) > 0) {
                prelude();
            }
            for (int n = up(9); n >= 0 && lines < 200 && text.length() < 1900; n--) {
                guarded();
            }
        }
        if (up(2) == 0) {
            text.setLength(Math.max(0, text.length() - 1));
        }
        return text.toString();
    }

    /** A path of many SEGMENTS, some of them on a line, some of no length, some with tiny ones. */
    private String path() {
        text = new StringBuilder();
        lines = 0;
        add("O 0");
        prelude();
        add("M3 F" + (1 + up(9000)) + " S" + up(900));
        add("#3=0");
        add("WHILE #3 LT " + any("1", "3", "20", "60"));
        add("#3=#3+1");
        for (int n = 3 + up(12); n > 0; n--) {
            add("TRY");
            switch (up(6)) {
                case 0:
                    add(any("G91", "G90", "G1", "G0", "G1 F" + up(3000), "G4 P" + up(900), "M3", "M5", "S" + up(500)));
                    break;
                case 1:
                    add("G1 X[#3*" + up(9) + "] Y[#3*" + up(9) + "]");
                    break;
                case 2:
                    add(any("G81 Z-5", "G84 Z3.5", "G91 X0.00000001", "X[POS[0]+0.00000001]", "Y[MOD[#3,7]*" + up(50) + "]"));
                    break;
                case 3:
                    add("G1 Z[#3/" + (1 + up(300)) + "*" + any("1", "0.00001", "#100") + "]");
                    break;
                default:
                    add(motion());
                    break;
            }
            add("ON ANY");
            add("END");
        }
        add("END");
        return text.toString();
    }

    private String spoilt(String good) {
        StringBuilder s = new StringBuilder(good);
        for (int n = 1 + up(3); n > 0 && s.length() > 2; n--) {
            int at = up(s.length());
            switch (up(5)) {
                case 0:
                    s.deleteCharAt(at);
                    break;
                case 1:
                    s.insert(at, any("\n", " ", "[", "-", "#", "]", ",", "END\n", "ELSE", "(", ")", ".", "1", "O 1\n", "x",
                        "\nIF 1", "1234567890", "\u00e9", "ON ANY\n", "LAST\n", "=", "X", "GUARD\n", "TRY\n"));
                    break;
                case 2:
                    s.setCharAt(at, any("A", "9", ".", "\n", "#", "[", "(", " ", "\t").charAt(0));
                    break;
                case 3:
                    int end = Math.min(s.length(), at + up(12));
                    s.delete(at, end);
                    break;
                default:
                    int to = Math.min(s.length(), at + up(25));
                    s.insert(up(s.length()), s.substring(at, to));
                    break;
            }
        }
        return s.length() > 4900 ? s.substring(0, 4900) : s.toString();
    }

    private static int fed(MillCell a, ReferenceCell b, String text) {
        int wrong = 0;
        for (int at = 0; at < text.length(); at += 20) {
            int[] w = new int[5];
            for (int k = 0; k < 5; k++) {
                w[k] = Cells.word(text, at + 4 * k);
            }
            wrong += a.feed(w[0], w[1], w[2], w[3], w[4]) == b.feed(w[0], w[1], w[2], w[3], w[4]) ? 0 : 1;
        }
        int over = (20 - text.length() % 20) % 20;
        return wrong + (a.back(over) == b.back(over) ? 0 : 1);
    }

    private static void differ(String text, String call, long a, long b) {
        System.out.println("----\n" + text + "\n---- " + call + " answered " + a + ", due is " + b);
        System.exit(1);
    }

    private static int run(MillCell a, int o, int steps) {
        try {
            return a.run(o, steps);
        } catch (IllegalArgumentException e) {
            return 100;
        } catch (IllegalStateException e) {
            return 101;
        }
    }

    private static int run(ReferenceCell b, int o, int steps) {
        try {
            return b.run(o, steps);
        } catch (IllegalArgumentException e) {
            return 100;
        } catch (IllegalStateException e) {
            return 101;
        }
    }

    private static void same(String text, String call, long a, long b) {
        if (a != b) {
            differ(text, call, a, b);
        }
    }

    private static void compareAll(String text, MillCell a, ReferenceCell b) {
        for (int w = -1; w <= 8; w++) {
            same(text, "told(" + w + ")", a.told(w), b.told(w));
        }
        for (int w = -1; w <= 14; w++) {
            same(text, "count(" + w + ")", a.count(w), b.count(w));
        }
        for (int where = -1; where <= 8; where++) {
            int most = where == 0 ? 151 : where == 4 ? 202 : 30;
            for (int i = where == 0 ? 98 : -1; i <= most; i++) {
                same(text, "real(" + where + ", " + i + ")", a.real(where, i), b.real(where, i));
            }
        }
        int kept = b.told(6);
        for (int i = -1; i <= kept; i++) {
            for (int w = -1; w <= 7; w++) {
                same(text, "segment(" + i + ", " + w + ")", a.segment(i, w), b.segment(i, w));
            }
        }
        for (int k = -1; k <= 8; k++) {
            same(text, "bank(" + k + ")", a.bank(k), b.bank(k));
            for (int i = -1; i <= 12; i++) {
                same(text, "cell(" + k + ", " + i + ")", a.cell(k, i), b.cell(k, i));
            }
        }
        for (int r = -2; r <= 4; r++) {
            for (int p = -1; p <= 6; p++) {
                for (int w = -1; w <= 6; w++) {
                    same(text, "pocket(" + r + ", " + p + ", " + w + ")", a.pocket(r, p, w), b.pocket(r, p, w));
                }
            }
        }
    }

    private long bits() {
        switch (up(8)) {
            case 0:
                return Double.doubleToLongBits(up(2000) / 8.0 - 100);
            case 1:
                return Double.doubleToLongBits(random.nextInt());
            case 2:
                return (long) up(64) << 52 | random.nextLong() >>> 12;
            case 3:
                return Double.doubleToLongBits((up(2) == 0 ? 1 : -1) * (double) Float.intBitsToFloat(random.nextInt()));
            case 4:
                long[] edges = {0, Long.MIN_VALUE, 1, 0x7ff0000000000000L, 0xfff0000000000000L, 0x7fefffffffffffffL,
                    0xffefffffffffffffL, VACANT_OF_ANOTHER_KIND, 0x8000000000000001L, 0x0010000000000000L,
                    0x000fffffffffffffL, 0x41dfffffffc00000L, 0xc1e0000000000000L, 0x43e0000000000000L,
                    0x3fe0000000000000L, 0xbfe0000000000000L, 0x4340000000000000L};
                return edges[up(edges.length)];
            case 5:
                return Double.doubleToLongBits((random.nextDouble() - 0.5) * 10);
            default:
                return random.nextLong();
        }
    }

    private static final long VACANT_OF_ANOTHER_KIND = 0xfff8000000000123L;

    private void wholePrograms() {
        MillCell a = new MillCell();
        ReferenceCell b = new ReferenceCell();
        for (int n = 1 + up(2); n > 0; n--) {
            String t = up(4) == 0 ? path() : programs();
            if (up(3) == 0) {
                t = spoilt(t);
            }
            if (t.length() > 4980) {
                t = t.substring(0, 4980);
            }
            same(t, "feeds", fed(a, b, t), 0);
            same(t, "read()", a.read(), b.read());
            compareAll(t, a, b);
            for (int runs = up(3); runs >= 0; runs--) {
                for (int k = up(3); k > 0; k--) {
                    int p = 99 + up(6);
                    long x = bits();
                    same(t, "param", a.param(p, x) ? 1 : 0, b.param(p, x) ? 1 : 0);
                }
                int o = up(12) == 0 ? up(200) - 50 : up(5) == 0 ? up(3) : 0;
                int steps = up(20) == 0 ? 10001 - up(10) : up(3) == 0 ? up(40) : up(3000);
                same(t, "run(" + o + ", " + steps + ")", run(a, o, steps), run(b, o, steps));
                compareAll(t, a, b);
            }
        }
    }

    /** TOKENS and bytes in any order: hardly ever a program, but the fault must be the same one. */
    private void soup() {
        String[] words = ("IF ELSE WHILE TRY ON LAST GUARD END CALL RETURN ALARM PRINT FIT DROP # [ ] , = + - * / 1 2 99 100 1.5 O X G ANY"
            + " NONE EQ LT ABS MIN MID VACANT FEED WHY ( ) . x A B").split(" ");
        StringBuilder s = new StringBuilder(up(4) > 0 ? "O 1\n" : "");
        for (int n = up(up(3) == 0 ? 300 : 12); n > 0 && s.length() < 4900; n--) {
            s.append(up(60) == 0 ? Character.toString((char) up(256)) : any(words)).append(any(" ", " ", "", "\n"));
        }
        MillCell a = new MillCell();
        ReferenceCell b = new ReferenceCell();
        same(s.toString(), "feeds", fed(a, b, s.toString()), 0);
        same(s.toString(), "read()", a.read(), b.read());
    }

    private static String functionsText() {
        StringBuilder s = new StringBuilder("O 1\n");
        for (String f : "ABS FIX FUP RND SQRT SGN ULP NXT INT VAC LONG SING".split(" ")) {
            s.append("PRINT ").append(f).append("[#100]\n");
        }
        for (String f : "MIN MAX CPS MOD AND OR XOR SHL SHR".split(" ")) {
            s.append("PRINT ").append(f).append("[#100,#101]\n");
        }
        for (String c : "EQ NE LT LE GT GE + - * /".split(" ")) {
            s.append("PRINT #100 ").append(c).append(" #101\n");
        }
        s.append("PRINT MID[#100,#101,#102]\nPRINT -#100\nTRY\nPRINT DIV[#100,#101]\nPRINT REM[#100,#101]\nON ZERO\nEND\n");
        for (int b = 0; b < 8; b++) {
            s.append("FIT ").append(b).append(",1\nPUT ").append(b).append(",0,#100\n");
            s.append("PRINT PORT[").append(b).append(",0]\n");
        }
        return s.toString();
    }

    private void reals(int times) {
        String t = functionsText();
        MillCell a = null;
        ReferenceCell b = null;
        for (int n = 0; n < times; n++) {
            if (n % 2000 == 0) {
                a = new MillCell();
                b = new ReferenceCell();
                fed(a, b, t);
                same(t, "read()", a.read(), 0);
                b.read();
            }
            long x = bits();
            long y = up(6) == 0 ? x : bits();
            long z = bits();
            String of = t + Double.longBitsToDouble(x) + " " + Double.longBitsToDouble(y) + " "
                + Double.longBitsToDouble(z);
            for (int k = 0; k < 3; k++) {
                long v = k == 0 ? x : k == 1 ? y : z;
                a.param(100 + k, v);
                b.param(100 + k, v);
            }
            same(of, "run(1, 10000)", a.run(1, 10000), b.run(1, 10000));
            for (int i = 0; i < 45; i++) {
                same(of, "real(4, " + i + ")", a.real(4, i), b.real(4, i));
            }
            for (int k = 0; k < 8; k++) {
                same(of, "cell(" + k + ", 0)", a.cell(k, 0), b.cell(k, 0));
            }
        }
    }

    public static void main(String[] args) {
        int times = args.length > 0 ? Integer.parseInt(args[0]) : 6000;
        long seed = args.length > 1 ? Long.parseLong(args[1]) : 1;
        for (int n = 0; n < times; n++) {
            new CompareTest(seed * 1000003 + n).wholePrograms();
            new CompareTest(seed * 1000003 + n).soup();
        }
        new CompareTest(seed).reals(times);
        System.out.println(times + " texts and " + times + " REALS compared");
    }
}
