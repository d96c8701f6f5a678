/** Part 2 of the terms, sentence by sentence: each edge that it names, and one beyond on either side. */
public final class ValueEdgesTest {
    private static final double V = Double.NaN;
    private static final double INF = Double.POSITIVE_INFINITY;
    private static final double MAX = Double.MAX_VALUE;
    private static final double LEAST = Double.MIN_VALUE;
    private static final double NORMAL = Double.MIN_NORMAL;
    private static final double TWO_52 = 4503599627370496.0;
    private static final double TWO_63 = 9223372036854775808.0;
    private static final double[] ALL = {0, -0.0, LEAST, -LEAST, NORMAL, -NORMAL, Math.nextDown(NORMAL), 0.25, -0.25, 0.49999999999999994,
        -0.49999999999999994, 0.5, -0.5, 0.5000000000000001, -0.5000000000000001, 0.9999999999999999, -0.9999999999999999, 1, -1,
        1.0000000000000002, -1.0000000000000002, 1.5, -1.5, 2, -2, 2.5, -2.5, 3, -3, 3.5, -3.5, 4, 1e9, 2147483646.5, 2147483647,
        2147483648.0,
        -2147483648.0, -2147483649.0, TWO_52 - 0.5, -TWO_52 + 0.5, TWO_52 - 1, TWO_52, -TWO_52, TWO_52 + 1, 2 * TWO_52, TWO_63, -TWO_63,
        Math.nextDown(TWO_63), Math.nextUp(TWO_63), 1e300, -1e300, MAX, -MAX, Math.nextDown(MAX), INF, -INF, V};

    public static void main(String[] args) {
        vacantsAreOne();
        roundedToInt();
        roundedToLong();
        roundedToFloat();
        parameterNumbers();
        parametersAtFirst();
        kept();
        asDoublesDo();
        compares();
        wholes();
        signs();
        ofTwo();
        middle();
        ulps();
        nexts();
        rests();
        divisions();
        bitsOfInts();
        placesOfFunctions();
        whyAndWhat();
        Cells.end();
    }

    /** One of them VACANT (NaN; all are one). */
    private static void vacantsAreOne() {
        MillCell cell = Cells.of("O 1", "FIT 7,1", "PUT 7,0,#100", "PRINT #100", "#1=#100", "ALARM #100");
        long[] bits = {0x7ff0000000000001L, 0x7ff7ffffffffffffL, 0x7ff8000000000000L, 0x7ff8000000000001L, 0x7fffffffffffffffL,
            0xfff0000000000001L, 0xfff8000000000000L, 0xffffffffffffffffL};
        for (long b : bits) {
            Cells.due("param", cell.param(100, b), true);
            Cells.due("real(0, 100)", cell.real(0, 100), Cells.VACANT);
            Cells.due("run(1, 9)", cell.run(1, 9), 1);
            Cells.due("real(4, 0)", cell.real(4, 0), Cells.VACANT);
            Cells.due("real(5, 0)", cell.real(5, 0), Cells.VACANT);
            Cells.due("real(7, 1)", cell.real(7, 1), Cells.VACANT);
            Cells.due("cell(7, 0)", cell.cell(7, 0), Cells.VACANT);
        }
        // The infinite ones on either side are none.
        for (long b : new long[] {0x7ff0000000000000L, 0xfff0000000000000L}) {
            cell.param(100, b);
            Cells.due("real(0, 100)", cell.real(0, 100), b);
        }
    }

    /** ROUNDED to an INT: cut towards 0, VACANT 0, beyond the ends the end. */
    private static void roundedToInt() {
        for (double x : ALL) {
            Cells.value("INT[#100]", (int) x, x);
        }
        Cells.value("INT[#100]", 2147483647, 2147483647.9999998);
        Cells.value("INT[#100]", 2147483646, 2147483646.9999998);
        Cells.value("INT[#100]", -2147483648.0, -2147483648.9999995);
        Cells.value("INT[#100]", -2147483647, -2147483647.9999998);
        // No INT is -0.
        Cells.value("1/INT[#100]", INF, -0.0);
        Cells.value("1/INT[#100]", INF, -0.9);
    }

    /** To a LONG likewise. */
    private static void roundedToLong() {
        for (double x : ALL) {
            Cells.value("LONG[#100]", (double) (long) x, x);
        }
        Cells.value("LONG[#100]", 9223372036854774784.0, Math.nextDown(TWO_63));
        Cells.value("LONG[#100]", TWO_63, TWO_63);
        Cells.value("LONG[#100]", -TWO_63, Math.nextDown(-TWO_63));
        Cells.value("1/LONG[#100]", INF, -0.9);
    }

    /** To a FLOAT: the nearest (VACANT 0). */
    private static void roundedToFloat() {
        double floatMax = Float.MAX_VALUE;
        double beyond = floatMax + Math.ulp(Float.MAX_VALUE) / 2;
        double least = Float.MIN_VALUE;
        double normal = Float.MIN_NORMAL;
        double[] edges = {floatMax, Math.nextUp(floatMax), Math.nextDown(beyond), beyond, Math.nextUp(beyond), 1e39, least, least / 2,
            Math.nextUp(least / 2), Math.nextDown(least / 2), least * 1.5, Math.nextDown(least * 1.5), normal, Math.nextDown(normal),
            normal / 2,
            normal - least, normal - least / 2, normal * 0.75, normal / 4, 16777215, 16777216, 16777217, 16777218, 16777219, 0.1, 1e-38,
            6e-39, 1e-45};
        for (double x : edges) {
            Cells.value("SING[#100]", (float) x, x);
            Cells.value("SING[#100]", -(float) x, -x);
        }
        for (double x : ALL) {
            Cells.value("SING[#100]", x != x ? 0 : (float) x, x);
        }
        Cells.value("SING[#100]", INF, beyond);
        Cells.value("SING[#100]", floatMax, Math.nextDown(beyond));
        Cells.value("SING[#100]", 0, least / 2);
        Cells.value("SING[#100]", least, Math.nextUp(least / 2));
    }

    /** # a, a rounded to an INT: 1 .. 26 of the CALL at hand, 100 .. 149 common ones; others: ALARM PLACE. */
    private static void parameterNumbers() {
        double[] there = {1, 1.9999999999999998, 2, 25, 26, 26.999999999999996, 100, 100.5, 149, 149.99999999999997};
        double[] absent = {0, -0.0, 0.9999999999999999, -1, -26, 27, 28, 50, 99, 99.99999999999999, 150, 151, 1000, V, INF, -INF,
            4294967297.0, 4294967396.0};
        MillCell cell = Cells.of("O 1", "##101=7", "PRINT ##101", "O 2", "#5=1/#[##101]", "O 3", "##101=8");
        for (double x : there) {
            cell.param(101, Cells.bits(x));
            Cells.due("run of #" + x, cell.run(1, 9), 0);
            Cells.dueReal("#" + x, cell.real(4, 0), 7);
            int k = (int) x;
            Cells.dueReal("#" + k + " has it", k >= 100 ? cell.real(0, k) : cell.real(7, k), 7);
        }
        for (double x : absent) {
            cell.param(101, Double.doubleToRawLongBits(x));
            Cells.due("run of #" + x, cell.run(3, 9), 1);
            Cells.due("alarm of #" + x, cell.told(0), 2);
            Cells.refused("##100", 2, x);
        }
        // What is met changes nothing.
        Cells.dueReal("#100", cell.real(0, 100), 7);
        Cells.dueReal("#149", cell.real(0, 149), 7);
    }

    /** All are VACANT at first (of a CALL: those of its LETTERS, A 1 to Z 26, have what is told). */
    private static void parametersAtFirst() {
        StringBuilder letters = new StringBuilder();
        StringBuilder prints = new StringBuilder();
        for (int k = 1; k <= 26; k++) {
            if (k != 15) {
                letters.append((char) ('A' + k - 1)).append(k + 0.5);
            }
            prints.append("\nPRINT #").append(k);
        }
        MillCell cell = Cells.of("O 1", "CALL 2", "CALL 2 " + letters, "CALL 2 A 9", "CALL 2 Z 8", "O 2" + prints);
        double[] want = new double[104];
        for (int k = 1; k <= 26; k++) {
            want[k - 1] = V;
            want[25 + k] = k == 15 ? V : k + 0.5;
            want[51 + k] = k == 1 ? 9 : V;
            want[77 + k] = k == 26 ? 8 : V;
        }
        Cells.prints(cell, want);
        for (int k = 99; k <= 150; k++) {
            Cells.due("real(0, " + k + ")", cell.real(0, k), Cells.VACANT);
        }
        // run() begins with VACANT ones, whatever the run ahead has left, and a RETURN leads back to one's own.
        MillCell own = Cells.of("O 1", "PRINT #1", "#1=5", "CALL 2 B 3", "PRINT #1", "PRINT #2", "O 2", "PRINT #1", "PRINT #2", "#1=6",
            "#2=7");
        Cells.prints(own, V, V, 3, 5, V);
        Cells.prints(own, V, V, 3, 5, V);
    }

    /** Common ones (kept between runs). */
    private static void kept() {
        MillCell cell = Cells.of("O 1", "#100=1", "#149=2", "#1=3", "O 2", "PRINT #100", "PRINT #149", "PRINT #1", "CALL 1", "ALARM 1");
        cell.run(1, 9);
        Cells.due("run(2, 9)", cell.run(2, 9), 1);
        Cells.dueReal("#100", cell.real(4, 0), 1);
        Cells.dueReal("#149", cell.real(4, 1), 2);
        Cells.due("#1", cell.real(4, 2), Cells.VACANT);
        Cells.dueReal("#100 behind an alarm", cell.real(0, 100), 1);
    }

    /** + - * / as doubles do. */
    private static void asDoublesDo() {
        double[] some = {0, -0.0, 1, -1, LEAST, -LEAST, NORMAL, MAX, -MAX, INF, -INF, V, 0.1, 3, 1e-200, 1e200, TWO_52};
        for (double a : some) {
            MillCell cell = Cells.of("O 1", "PRINT #100+#101", "PRINT #100-#101", "PRINT #100*#101", "PRINT #100/#101", "PRINT -#100",
                "PRINT 0-#100");
            for (double b : some) {
                cell.param(100, Double.doubleToRawLongBits(a));
                cell.param(101, Double.doubleToRawLongBits(b));
                Cells.prints(cell, a + b, a - b, a * b, a / b, -a, 0 - a);
            }
        }
    }

    /** EQ .. give 1 or 0; with VACANT 0, but NE 1; 0 and -0 are the same. */
    private static void compares() {
        double[] some = {0, -0.0, LEAST, -LEAST, 1, Math.nextUp(1.0), MAX, -MAX, INF, -INF, V};
        for (double a : some) {
            MillCell cell = Cells.of("O 1", "PRINT #100 EQ #101", "PRINT #100 NE #101", "PRINT #100 LT #101", "PRINT #100 LE #101",
                "PRINT #100 GT #101", "PRINT #100 GE #101");
            for (double b : some) {
                cell.param(100, Double.doubleToRawLongBits(a));
                cell.param(101, Double.doubleToRawLongBits(b));
                Cells.prints(cell, a == b ? 1 : 0, a != b ? 1 : 0, a < b ? 1 : 0, a <= b ? 1 : 0, a > b ? 1 : 0, a >= b ? 1 : 0);
            }
        }
    }

    /** FIX FUP (the whole number not above, not below; zeros keep the sign; what comes to 0 from below is -0) RND (the nearest, of two the even). */
    private static void wholes() {
        for (double x : ALL) {
            Cells.value("FIX[#100]", Math.floor(x), x);
            Cells.value("FUP[#100]", Math.ceil(x), x);
            Cells.value("RND[#100]", Math.rint(x), x);
        }
        Cells.value("FIX[3]", 3);
        Cells.value("FIX[-3]", -3);
        Cells.value("FUP[3]", 3);
        Cells.value("RND[-3]", -3);
        Cells.value("FUP[-0.5]", -0.0);
        Cells.value("RND[-0.5]", -0.0);
        Cells.value("RND[0.5]", 0);
        Cells.value("RND[1.5]", 2);
        Cells.value("FIX[-0.5]", -1);
    }

    /** ABS SQRT SGN (-1, 1; zeros, VACANT themselves). */
    private static void signs() {
        for (double x : ALL) {
            Cells.value("ABS[#100]", Math.abs(x), x);
            Cells.value("SQRT[#100]", Math.sqrt(x), x);
            Cells.value("SGN[#100]", Math.signum(x), x);
            Cells.value("VAC[#100]", x != x ? 1 : 0, x);
        }
        for (int e = -1074; e <= 1023; e += 7) {
            double x = Math.scalb(1.0, e) * 1.7;
            Cells.value("SQRT[#100]", Math.sqrt(x), x);
            Cells.value("SQRT[#100]", Math.sqrt(Math.scalb(1.0, e)), Math.scalb(1.0, e));
        }
    }

    /** MIN MAX (VACANT, if one is; -0 below 0) CPS (a with b's sign; VACANT's is +). */
    private static void ofTwo() {
        double[] some = {0, -0.0, LEAST, -LEAST, 1, -1, MAX, -MAX, INF, -INF, V};
        for (double a : some) {
            MillCell cell = Cells.of("O 1", "PRINT MIN[#100,#101]", "PRINT MAX[#100,#101]", "PRINT CPS[#100,#101]");
            for (double b : some) {
                cell.param(100, Double.doubleToRawLongBits(a));
                cell.param(101, Double.doubleToRawLongBits(b));
                Cells.prints(cell, Math.min(a, b), Math.max(a, b), Math.copySign(a, b != b ? 1 : b));
            }
        }
        // VACANT's sign is +, whatever its bits were.
        MillCell cell = Cells.of("O 1", "PRINT CPS[-2,#101]");
        cell.param(101, 0xfff8000000000000L);
        Cells.prints(cell, 2);
    }

    /** MID (MAX[MIN[a,b],MIN[MAX[a,b],c]]). */
    private static void middle() {
        double[] some = {0, -0.0, 1, -1, 2, INF, V};
        for (double a : some) {
            for (double b : some) {
                MillCell cell = Cells.of("O 1", "PRINT MID[#100,#101,#102]");
                for (double c : some) {
                    cell.param(100, Double.doubleToRawLongBits(a));
                    cell.param(101, Double.doubleToRawLongBits(b));
                    cell.param(102, Double.doubleToRawLongBits(c));
                    Cells.prints(cell, Math.max(Math.min(a, b), Math.min(Math.max(a, b), c)));
                }
            }
        }
    }

    /** ULP (of the greatest finite one to the one ahead; of an infinite one infinite; of 0 the least above it; VACANT's is VACANT). */
    private static void ulps() {
        for (double x : ALL) {
            Cells.value("ULP[#100]", Math.ulp(x), x);
        }
        Cells.value("ULP[#100]", MAX - Math.nextDown(MAX), MAX);
        Cells.value("ULP[#100]", MAX - Math.nextDown(MAX), -MAX);
        Cells.value("ULP[#100]", LEAST, Math.nextDown(NORMAL));
        Cells.value("ULP[#100]", LEAST, NORMAL);
        Cells.value("ULP[#100]", LEAST, Math.nextDown(2 * NORMAL));
        Cells.value("ULP[#100]", 2 * LEAST, 2 * NORMAL);
        Cells.value("ULP[#100]", Math.nextUp(1.0) - 1, Math.nextDown(2.0));
    }

    /** NXT (of zeros the least above 0, of the greatest below 0 -0; VACANT, + infinite stay). */
    private static void nexts() {
        for (double x : ALL) {
            Cells.value("NXT[#100]", x == -LEAST ? -0.0 : Math.nextUp(x), x);
        }
        Cells.value("1/NXT[#100]", -INF, -LEAST);
        Cells.value("NXT[#100]", -MAX, -INF);
        Cells.value("NXT[#100]", INF, MAX);
        Cells.value("NXT[#100]", NORMAL, Math.nextDown(NORMAL));
    }

    /** MOD (the exact rest of a by b, with a's sign; VACANT, if a is infinite or b 0). */
    private static void rests() {
        double[] some = {0, -0.0, LEAST, -LEAST, NORMAL, 0.1, 0.3, 0.5, 0.75, -0.75, 1, -1, 3, 5, -5, 5.5, 1e15, TWO_52, 1e300, -1e300,
            MAX, -MAX, INF, -INF, V};
        for (double a : some) {
            MillCell cell = Cells.of("O 1", "PRINT MOD[#100,#101]");
            for (double b : some) {
                cell.param(100, Double.doubleToRawLongBits(a));
                cell.param(101, Double.doubleToRawLongBits(b));
                Cells.prints(cell, a % b);
            }
        }
    }

    /** DIV REM (towards 0; ALARM ZERO by 0; the least by -1 is itself, rest 0). */
    private static void divisions() {
        int[] some = {0, 1, -1, 2, -2, 7, -7, Integer.MAX_VALUE, Integer.MIN_VALUE, Integer.MIN_VALUE + 1};
        for (int a : some) {
            for (int b : some) {
                if (b == 0) {
                    Cells.refused("DIV[#100,#101]", 6, a, b);
                    Cells.refused("REM[#100,#101]", 6, a, b);
                } else {
                    Cells.value("DIV[#100,#101]", a / b, a, b);
                    Cells.value("REM[#100,#101]", a % b, a, b);
                }
            }
        }
        for (double zero : new double[] {-0.0, 0.9999999999999999, -0.9999999999999999, V, LEAST}) {
            Cells.refused("DIV[1,#100]", 6, zero);
            Cells.refused("REM[1,#100]", 6, zero);
        }
        Cells.value("DIV[1,#100]", 1, 1.9999999999999998);
        Cells.value("DIV[#100,-1]", -2147483648.0, -1e300);
        Cells.value("DIV[#100,-1]", -2147483647, 1e300);
        Cells.value("REM[#100,-1]", 0, -INF);
    }

    /** AND OR XOR SHL SHR (by b's lowest five bits, with the sign), with INTS. */
    private static void bitsOfInts() {
        double[] some = {0, 1, -1, 31, 32, 33, -31, -32, -33, 2147483647, -2147483648.0, 1e300, -1e300, V, 5.9, -5.9};
        for (double x : some) {
            for (double y : some) {
                int a = (int) x;
                int b = (int) y;
                Cells.value("AND[#100,#101]", a & b, x, y);
                Cells.value("OR[#100,#101]", a | b, x, y);
                Cells.value("XOR[#100,#101]", a ^ b, x, y);
                Cells.value("SHL[#100,#101]", a << b, x, y);
                Cells.value("SHR[#100,#101]", a >> b, x, y);
            }
        }
    }

    /** PORT, LEN, POS (0 .. 2, else PLACE), HELD; numbers rounded to INTS. */
    private static void placesOfFunctions() {
        for (double k : new double[] {-1, -0.9999999999999999, 0, 2, 2.9999999999999996, 3, V, INF, -INF}) {
            if ((int) k >= 0 && (int) k <= 2) {
                Cells.value("POS[#100]", 0, k);
            } else {
                Cells.refused("POS[#100]", 2, k);
            }
        }
        for (double k : new double[] {-1, -0.9999999999999999, 0, 5, 5.999999999999999, 6, V, INF, -INF}) {
            if ((int) k >= 0 && (int) k <= 5) {
                Cells.value("HELD[#100]", 0, k);
            } else {
                Cells.refused("HELD[#100]", 2, k);
            }
        }
        for (double b : new double[] {-1, -0.9999999999999999, 0, 7, 7.999999999999999, 8, V, INF, -INF}) {
            int alarm = (int) b >= 0 && (int) b <= 7 ? 1 : 2;
            Cells.refused("LEN[#100]", alarm, b);
            Cells.refused("PORT[#100,0]", alarm, b);
            Cells.refused("PORT[#100,-1]", alarm, b);
        }
        double[] cells = {-1, -0.9999999999999999, 0, 2, 2.9999999999999996, 3, V, INF, -INF};
        for (double i : cells) {
            MillCell cell = Cells.of("O 1", "FIT 4,3", "PRINT LEN[4]", "PRINT PORT[4,#100]");
            cell.param(100, Double.doubleToRawLongBits(i));
            boolean there = (int) i >= 0 && (int) i <= 2;
            Cells.due("run of PORT[4," + i + "]", cell.run(1, 9), there ? 0 : 1);
            Cells.due("its alarm", cell.told(0), there ? 0 : 2);
            Cells.dueReal("LEN[4]", cell.real(4, 0), 3);
        }
        MillCell none = Cells.of("O 1", "FIT 4,0", "PRINT LEN[4]", "PRINT PORT[4,0]");
        Cells.prints(none, 0);
        Cells.due("no cell in a row of 0", none.told(0), 2);
    }

    /** WHY: the number of the ALARM taken latest by an ON in this run (0), WHAT: what RAISED it (VACANT). */
    private static void whyAndWhat() {
        MillCell cell = Cells.of("O 1", "PRINT WHY", "PRINT WHAT", "TRY", "ALARM 5", "ON ANY", "PRINT WHY", "PRINT WHAT", "END",
            "PRINT WHY",
            "PRINT WHAT", "CALL 2", "PRINT WHY", "PRINT WHAT", "O 2", "PRINT WHAT", "TRY", "PRINT #0", "ON PLACE", "END", "O 3",
            "PRINT WHY",
            "PRINT WHAT", "TRY", "TRY", "ALARM 3", "LAST", "PRINT WHY", "END", "ON ZERO", "ON RAISED", "PRINT WHAT", "END");
        Cells.prints(cell, 0, V, 10, 5, 10, 5, 5, 2, V);
        // A new run begins with none, and one that isn't taken yet is none.
        cell.run(1, 8);
        Cells.due("run(3, 99)", cell.run(3, 99), 0);
        Cells.dueReal("WHY", cell.real(4, 0), 0);
        Cells.due("WHAT", cell.real(4, 1), Cells.VACANT);
        Cells.dueReal("WHY in a LAST", cell.real(4, 2), 0);
        Cells.dueReal("WHAT", cell.real(4, 3), 3);
    }
}
