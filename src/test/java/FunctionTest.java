/** Part 2 of the terms: VALUES, PARAMETERS and FUNCTIONS. */
public final class FunctionTest {
    private static final double V = Double.NaN;
    private static final double INF = Double.POSITIVE_INFINITY;

    /** What E is with #100 .. as told; alarm 0, or the one that is due instead. */
    private static void is(String e, double want, double... params) {
        MillCell cell = Cells.of("O 1", "PRINT " + e);
        for (int i = 0; i < params.length; i++) {
            cell.param(100 + i, Double.doubleToRawLongBits(params[i]));
        }
        Cells.due("run of " + e, cell.run(1, 9), 0);
        Cells.dueReal(e, cell.real(4, 0), want);
    }

    private static void alarm(String e, int number, double... params) {
        MillCell cell = Cells.of("O 1", "", "PRINT " + e);
        for (int i = 0; i < params.length; i++) {
            cell.param(100 + i, Double.doubleToRawLongBits(params[i]));
        }
        Cells.due("run of " + e, cell.run(1, 9), 1);
        Cells.due("alarm of " + e, cell.told(0), number);
        Cells.due("line of " + e, cell.told(1), 3);
    }

    public static void main(String[] args) {
        arithmetic();
        compares();
        wholes();
        signs();
        neighbours();
        ints();
        parameters();
        Cells.end();
    }

    private static void arithmetic() {
        is("1/0", INF);
        is("-1/0", -INF);
        is("1/-0", -INF);
        is("0/0", V);
        is("1/0-1/0", V);
        is("1/0+1/0", INF);
        is("-1/0+1/0", V);
        is("0*[1/0]", V);
        is("[1/0]*-0", V);
        is("[1/0]/[1/0]", V);
        is("1/0*-2", -INF);
        is("5/[1/0]", 0);
        is("-0", -0.0);
        is("0-0", 0);
        is("-0-0", -0.0);
        is("-0+0", 0);
        is("VACANT+1", V);
        is("1-VACANT", V);
        is("VACANT*0", V);
        is("-VACANT", V);
        is("0.1+0.2", 0.1 + 0.2);
        is("1/3", 1.0 / 3);
        is("2-3*4", -10);
        is("#100*#100", INF, 1e300);
        is("#100*#101", Double.MIN_VALUE, 1e-300, 4e-24);
        is("#100+#101", 9007199254740992.0, 9007199254740992.0, 1);
    }

    private static void compares() {
        String[] words = {"EQ", "NE", "LT", "LE", "GT", "GE"};
        double[][] pairs = {{1, 2}, {2, 1}, {2, 2}, {0, -0.0}, {-0.0, 0}, {INF, INF}, {-INF, 0}, {V, 1}, {1, V}, {V, V}};
        int[][] want = {{0, 1, 1, 1, 0, 0}, {0, 1, 0, 0, 1, 1}, {1, 0, 0, 1, 0, 1}, {1, 0, 0, 1, 0, 1}, {1, 0, 0, 1, 0, 1},
            {1, 0, 0, 1, 0, 1}, {0, 1, 1, 1, 0, 0}, {0, 1, 0, 0, 0, 0}, {0, 1, 0, 0, 0, 0}, {0, 1, 0, 0, 0, 0}};
        for (int p = 0; p < pairs.length; p++) {
            for (int w = 0; w < 6; w++) {
                is("#100 " + words[w] + " #101", want[p][w], pairs[p]);
            }
        }
    }

    private static void wholes() {
        double[] of = {0, -0.0, 0.3, -0.3, 0.5, -0.5, 1.5, -1.5, 2.5, -2.5, 2.7, -2.7, 4503599627370495.5, -4503599627370495.5,
            4503599627370497.0, 1e300, INF, -INF, V, Double.MIN_VALUE, -Double.MIN_VALUE};
        double[] fix = {0, -0.0, 0, -1, 0, -1, 1, -2, 2, -3, 2, -3, 4503599627370495.0, -4503599627370496.0, 4503599627370497.0,
            1e300, INF, -INF, V, 0, -1};
        double[] fup = {0, -0.0, 1, -0.0, 1, -0.0, 2, -1, 3, -2, 3, -2, 4503599627370496.0, -4503599627370495.0,
            4503599627370497.0, 1e300, INF, -INF, V, 1, -0.0};
        double[] rnd = {0, -0.0, 0, -0.0, 0, -0.0, 2, -2, 2, -2, 3, -3, 4503599627370496.0, -4503599627370496.0,
            4503599627370497.0, 1e300, INF, -INF, V, 0, -0.0};
        for (int i = 0; i < of.length; i++) {
            is("FIX[#100]", fix[i], of[i]);
            is("FUP[#100]", fup[i], of[i]);
            is("RND[#100]", rnd[i], of[i]);
        }
    }

    private static void signs() {
        double[] of = {0, -0.0, 3, -3, INF, -INF, V, Double.MIN_VALUE, -Double.MIN_VALUE};
        double[] abs = {0, 0, 3, 3, INF, INF, V, Double.MIN_VALUE, Double.MIN_VALUE};
        double[] sgn = {0, -0.0, 1, -1, 1, -1, V, 1, -1};
        double[] root = {0, -0.0, Math.sqrt(3), V, INF, V, V, Math.sqrt(Double.MIN_VALUE), V};
        for (int i = 0; i < of.length; i++) {
            is("ABS[#100]", abs[i], of[i]);
            is("SGN[#100]", sgn[i], of[i]);
            is("SQRT[#100]", root[i], of[i]);
            is("VAC[#100]", of[i] != of[i] ? 1 : 0, of[i]);
        }
        is("SQRT[2]", Math.sqrt(2));
        is("SQRT[16]", 4);
        is("SQRT[#100]", Math.sqrt(Double.MAX_VALUE), Double.MAX_VALUE);
        is("MIN[0,-0]", -0.0);
        is("MIN[-0,0]", -0.0);
        is("MAX[0,-0]", 0);
        is("MAX[-0,0]", 0);
        is("MIN[3,-4]", -4);
        is("MAX[3,-4]", 3);
        is("MIN[VACANT,1]", V);
        is("MAX[1,VACANT]", V);
        is("MIN[1,-1/0]", -INF);
        is("CPS[3,-0]", -3);
        is("CPS[-3,0]", 3);
        is("CPS[-3,VACANT]", 3);
        is("CPS[VACANT,-1]", V);
        is("CPS[0,-5]", -0.0);
        is("CPS[1/0,-5]", -INF);
        is("MID[1,5,3]", 3);
        is("MID[5,1,3]", 3);
        is("MID[1,5,9]", 5);
        is("MID[1,5,-9]", 1);
        is("MID[VACANT,5,9]", V);
        is("MID[1,VACANT,9]", V);
        is("MID[1,5,VACANT]", V);
        is("MID[0,-0,-0]", -0.0);
    }

    private static void neighbours() {
        is("ULP[1]", Math.ulp(1.0));
        is("ULP[-1]", Math.ulp(1.0));
        is("ULP[0]", Double.MIN_VALUE);
        is("ULP[-0]", Double.MIN_VALUE);
        is("ULP[#100]", Double.MIN_VALUE, 1e-310);
        is("ULP[#100]", Math.ulp(Double.MAX_VALUE), Double.MAX_VALUE);
        is("ULP[#100]", INF, -INF);
        is("ULP[VACANT]", V);
        is("NXT[1]", 1.0000000000000002);
        is("NXT[-1]", -0.9999999999999999);
        is("NXT[0]", Double.MIN_VALUE);
        is("NXT[-0]", Double.MIN_VALUE);
        is("NXT[#100]", -0.0, -Double.MIN_VALUE);
        is("NXT[#100]", INF, Double.MAX_VALUE);
        is("NXT[#100]", INF, INF);
        is("NXT[#100]", -Double.MAX_VALUE, -INF);
        is("NXT[VACANT]", V);
        is("MOD[7,3]", 1);
        is("MOD[-7,3]", -1);
        is("MOD[7,-3]", 1);
        is("MOD[-6,3]", -0.0);
        is("MOD[6,3]", 0);
        is("MOD[5.5,0.1]", 5.5 % 0.1);
        is("MOD[#100,3]", 1e300 % 3, 1e300);
        is("MOD[#100,#101]", Double.MAX_VALUE % 4e-320, Double.MAX_VALUE, 4e-320);
        is("MOD[5,1/0]", 5);
        is("MOD[-0,5]", -0.0);
        is("MOD[1/0,5]", V);
        is("MOD[5,0]", V);
        is("MOD[VACANT,5]", V);
        is("MOD[5,VACANT]", V);
    }

    private static void ints() {
        is("INT[2.9]", 2);
        is("INT[-2.9]", -2);
        is("INT[-0.5]", 0);
        is("INT[VACANT]", 0);
        is("INT[1/0]", 2147483647);
        is("INT[-1/0]", -2147483648.0);
        is("INT[#100]", -2147483648.0, -2147483649.0);
        is("LONG[#100]", 9223372036854775807.0, 1e30);
        is("LONG[-1/0]", -9223372036854775808.0);
        is("LONG[3.7]", 3);
        is("LONG[-3.7]", -3);
        is("LONG[VACANT]", 0);
        is("SING[0.1]", 0.1f);
        is("SING[16777217]", 16777216);
        is("SING[#100]", INF, 1e300);
        is("SING[#100]", Float.MAX_VALUE, 3.4028235677973362E38);
        is("SING[#100]", INF, 3.4028235677973366E38);
        is("SING[#100]", -0.0, -1e-300);
        is("SING[VACANT]", 0);
        is("DIV[7,2]", 3);
        is("DIV[-7,2]", -3);
        is("DIV[7.9,-2.9]", -3);
        is("REM[-7,2]", -1);
        is("REM[7,-2]", 1);
        is("DIV[-1/0,-1]", -2147483648.0);
        is("REM[-1/0,-1]", 0);
        alarm("DIV[1,0]", 6);
        alarm("DIV[1,0.9]", 6);
        alarm("REM[1,VACANT]", 6);
        is("DIV[VACANT,1]", 0);
        is("AND[12,10]", 8);
        is("OR[12,10]", 14);
        is("XOR[12,10]", 6);
        is("XOR[-1,1]", -2);
        is("AND[VACANT,10]", 0);
        is("SHL[1,31]", -2147483648.0);
        is("SHL[1,32]", 1);
        is("SHL[1,33]", 2);
        is("SHL[3,-1]", -2147483648.0);
        is("SHR[-8,1]", -4);
        is("SHR[-1/0,31]", -1);
        is("SHR[8,34]", 2);
        alarm("POS[3]", 2);
        alarm("POS[-1]", 2);
        is("POS[VACANT]", 0);
        is("POS[2.9]", 0);
        alarm("HELD[6]", 2);
        alarm("HELD[-1]", 2);
        is("HELD[5]", 0);
        alarm("FEED", 1);
        alarm("LEN[8]", 2);
        alarm("LEN[0]", 1);
        alarm("PORT[-1,0]", 2);
        alarm("PORT[7,0]", 1);
        // From the left.
        alarm("DIV[1,0]+PORT[8,0]", 6);
        alarm("PORT[8,DIV[1,0]]", 6);
        is("WHY", 0);
        is("WHAT", V);
    }

    private static void parameters() {
        alarm("#0", 2);
        alarm("#27", 2);
        alarm("#99", 2);
        alarm("#150", 2);
        alarm("#-1", 2);
        alarm("#VACANT", 2);
        alarm("#[1/0]", 2);
        is("#1", V);
        is("#26.9", V);
        is("#149", V);
        is("##100", 7, 101, 7);
        is("#[50*2]", 5, 5);
        is("#100", 0.25, 0.25);
        MillCell cell = Cells.of("O 1", "#1=5", "#26=6", "#101=7", "CALL 2 A #26 C VACANT B -#1", "PRINT #1", "PRINT #2", "O 2",
            "PRINT #1", "PRINT #2", "PRINT #3", "PRINT #26", "#1=99", "#26=98", "#101=8", "PRINT #15");
        Cells.prints(cell, 6, -5, V, V, V, 5, V);
        Cells.dueReal("real(0, 101)", cell.real(0, 101), 8);
        Cells.dueReal("real(7, 26)", cell.real(7, 26), 6);
        Cells.prints(Cells.of("O 1", "PRINT #100", "PRINT #1", "#1=5", "#100=6", "#-[-102]=3", "PRINT #102"), V, V, 3);
        MillCell order = Cells.of("O 1", "#0=DIV[1,0]", "O 2", "##0=DIV[1,0]", "O 3", "#27=1");
        order.run(1, 9);
        Cells.due("the Es first", order.told(0), 6);
        order.run(2, 9);
        Cells.due("from the left", order.told(0), 2);
        Cells.due("run(3, 9)", order.run(3, 9), 1);
        Cells.due("told(0)", order.told(0), 2);
    }
}
