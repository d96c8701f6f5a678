/** Part 2 of the terms: VALUES, PARAMETERS and FUNCTIONS. */
public final class FunctionTest {
    private static final double V = Double.NaN;
    private static final double INF = Double.POSITIVE_INFINITY;

    public static void main(String[] args) {
        arithmetic();
        compares();
        wholes();
        signs();
        neighbours();
        ints();
        parameters();
        Cells.end();
    }

    private static void arithmetic() {
        Cells.value("1/0", INF);
        Cells.value("-1/0", -INF);
        Cells.value("1/-0", -INF);
        Cells.value("0/0", V);
        Cells.value("1/0-1/0", V);
        Cells.value("1/0+1/0", INF);
        Cells.value("-1/0+1/0", V);
        Cells.value("0*[1/0]", V);
        Cells.value("[1/0]*-0", V);
        Cells.value("[1/0]/[1/0]", V);
        Cells.value("1/0*-2", -INF);
        Cells.value("5/[1/0]", 0);
        Cells.value("-0", -0.0);
        Cells.value("0-0", 0);
        Cells.value("-0-0", -0.0);
        Cells.value("-0+0", 0);
        Cells.value("VACANT+1", V);
        Cells.value("1-VACANT", V);
        Cells.value("VACANT*0", V);
        Cells.value("-VACANT", V);
        Cells.value("0.1+0.2", 0.1 + 0.2);
        Cells.value("1/3", 1.0 / 3);
        Cells.value("2-3*4", -10);
        Cells.value("#100*#100", INF, 1e300);
        Cells.value("#100*#101", Double.MIN_VALUE, 1e-300, 4e-24);
        Cells.value("#100+#101", 9007199254740992.0, 9007199254740992.0, 1);
    }

    private static void compares() {
        String[] words = {"EQ", "NE", "LT", "LE", "GT", "GE"};
        double[][] pairs = {{1, 2}, {2, 1}, {2, 2}, {0, -0.0}, {-0.0, 0}, {INF, INF}, {-INF, 0}, {V, 1}, {1, V}, {V, V}};
        int[][] want = {{0, 1, 1, 1, 0, 0}, {0, 1, 0, 0, 1, 1}, {1, 0, 0, 1, 0, 1}, {1, 0, 0, 1, 0, 1}, {1, 0, 0, 1, 0, 1},
            {1, 0, 0, 1, 0, 1}, {0, 1, 1, 1, 0, 0}, {0, 1, 0, 0, 0, 0}, {0, 1, 0, 0, 0, 0}, {0, 1, 0, 0, 0, 0}};
        for (int p = 0; p < pairs.length; p++) {
            for (int w = 0; w < 6; w++) {
                Cells.value("#100 " + words[w] + " #101", want[p][w], pairs[p]);
            }
        }
    }

    private static void wholes() {
        double[] of = {0, -0.0, 0.3, -0.3, 0.5, -0.5, 1.5, -1.5, 2.5, -2.5, 2.7, -2.7, 4503599627370495.5, -4503599627370495.5,
            4503599627370497.0, 1e300, INF, -INF, V, Double.MIN_VALUE, -Double.MIN_VALUE};
        double[] fix = {0, -0.0, 0, -1, 0, -1, 1, -2, 2, -3, 2, -3, 4503599627370495.0, -4503599627370496.0, 4503599627370497.0,
            1e300, INF, -INF, V, 0, -1};
        double[] fup = {0, -0.0, 1, -0.0, 1, -0.0, 2, -1, 3, -2, 3, -2, 4503599627370496.0, -4503599627370495.0,
            4503599627370497.0, 1e300, INF, -INF, V, 1, -0.0};
        double[] rnd = {0, -0.0, 0, -0.0, 0, -0.0, 2, -2, 2, -2, 3, -3, 4503599627370496.0, -4503599627370496.0,
            4503599627370497.0, 1e300, INF, -INF, V, 0, -0.0};
        for (int i = 0; i < of.length; i++) {
            Cells.value("FIX[#100]", fix[i], of[i]);
            Cells.value("FUP[#100]", fup[i], of[i]);
            Cells.value("RND[#100]", rnd[i], of[i]);
        }
    }

    private static void signs() {
        double[] of = {0, -0.0, 3, -3, INF, -INF, V, Double.MIN_VALUE, -Double.MIN_VALUE};
        double[] abs = {0, 0, 3, 3, INF, INF, V, Double.MIN_VALUE, Double.MIN_VALUE};
        double[] sgn = {0, -0.0, 1, -1, 1, -1, V, 1, -1};
        double[] root = {0, -0.0, Math.sqrt(3), V, INF, V, V, Math.sqrt(Double.MIN_VALUE), V};
        for (int i = 0; i < of.length; i++) {
            Cells.value("ABS[#100]", abs[i], of[i]);
            Cells.value("SGN[#100]", sgn[i], of[i]);
            Cells.value("SQRT[#100]", root[i], of[i]);
            Cells.value("VAC[#100]", of[i] != of[i] ? 1 : 0, of[i]);
        }
        Cells.value("SQRT[2]", Math.sqrt(2));
        Cells.value("SQRT[16]", 4);
        Cells.value("SQRT[#100]", Math.sqrt(Double.MAX_VALUE), Double.MAX_VALUE);
        Cells.value("MIN[0,-0]", -0.0);
        Cells.value("MIN[-0,0]", -0.0);
        Cells.value("MAX[0,-0]", 0);
        Cells.value("MAX[-0,0]", 0);
        Cells.value("MIN[3,-4]", -4);
        Cells.value("MAX[3,-4]", 3);
        Cells.value("MIN[VACANT,1]", V);
        Cells.value("MAX[1,VACANT]", V);
        Cells.value("MIN[1,-1/0]", -INF);
        Cells.value("CPS[3,-0]", -3);
        Cells.value("CPS[-3,0]", 3);
        Cells.value("CPS[-3,VACANT]", 3);
        Cells.value("CPS[VACANT,-1]", V);
        Cells.value("CPS[0,-5]", -0.0);
        Cells.value("CPS[1/0,-5]", -INF);
        Cells.value("MID[1,5,3]", 3);
        Cells.value("MID[5,1,3]", 3);
        Cells.value("MID[1,5,9]", 5);
        Cells.value("MID[1,5,-9]", 1);
        Cells.value("MID[VACANT,5,9]", V);
        Cells.value("MID[1,VACANT,9]", V);
        Cells.value("MID[1,5,VACANT]", V);
        Cells.value("MID[0,-0,-0]", -0.0);
    }

    private static void neighbours() {
        Cells.value("ULP[1]", Math.ulp(1.0));
        Cells.value("ULP[-1]", Math.ulp(1.0));
        Cells.value("ULP[0]", Double.MIN_VALUE);
        Cells.value("ULP[-0]", Double.MIN_VALUE);
        Cells.value("ULP[#100]", Double.MIN_VALUE, 1e-310);
        Cells.value("ULP[#100]", Math.ulp(Double.MAX_VALUE), Double.MAX_VALUE);
        Cells.value("ULP[#100]", INF, -INF);
        Cells.value("ULP[VACANT]", V);
        Cells.value("NXT[1]", 1.0000000000000002);
        Cells.value("NXT[-1]", -0.9999999999999999);
        Cells.value("NXT[0]", Double.MIN_VALUE);
        Cells.value("NXT[-0]", Double.MIN_VALUE);
        Cells.value("NXT[#100]", -0.0, -Double.MIN_VALUE);
        Cells.value("NXT[#100]", INF, Double.MAX_VALUE);
        Cells.value("NXT[#100]", INF, INF);
        Cells.value("NXT[#100]", -Double.MAX_VALUE, -INF);
        Cells.value("NXT[VACANT]", V);
        Cells.value("MOD[7,3]", 1);
        Cells.value("MOD[-7,3]", -1);
        Cells.value("MOD[7,-3]", 1);
        Cells.value("MOD[-6,3]", -0.0);
        Cells.value("MOD[6,3]", 0);
        Cells.value("MOD[5.5,0.1]", 5.5 % 0.1);
        Cells.value("MOD[#100,3]", 1e300 % 3, 1e300);
        Cells.value("MOD[#100,#101]", Double.MAX_VALUE % 4e-320, Double.MAX_VALUE, 4e-320);
        Cells.value("MOD[5,1/0]", 5);
        Cells.value("MOD[-0,5]", -0.0);
        Cells.value("MOD[1/0,5]", V);
        Cells.value("MOD[5,0]", V);
        Cells.value("MOD[VACANT,5]", V);
        Cells.value("MOD[5,VACANT]", V);
    }

    private static void ints() {
        Cells.value("INT[2.9]", 2);
        Cells.value("INT[-2.9]", -2);
        Cells.value("INT[-0.5]", 0);
        Cells.value("INT[VACANT]", 0);
        Cells.value("INT[1/0]", 2147483647);
        Cells.value("INT[-1/0]", -2147483648.0);
        Cells.value("INT[#100]", -2147483648.0, -2147483649.0);
        Cells.value("LONG[#100]", 9223372036854775807.0, 1e30);
        Cells.value("LONG[-1/0]", -9223372036854775808.0);
        Cells.value("LONG[3.7]", 3);
        Cells.value("LONG[-3.7]", -3);
        Cells.value("LONG[VACANT]", 0);
        Cells.value("SING[0.1]", 0.1f);
        Cells.value("SING[16777217]", 16777216);
        Cells.value("SING[#100]", INF, 1e300);
        Cells.value("SING[#100]", Float.MAX_VALUE, 3.4028235677973362E38);
        Cells.value("SING[#100]", INF, 3.4028235677973366E38);
        Cells.value("SING[#100]", -0.0, -1e-300);
        Cells.value("SING[VACANT]", 0);
        Cells.value("DIV[7,2]", 3);
        Cells.value("DIV[-7,2]", -3);
        Cells.value("DIV[7.9,-2.9]", -3);
        Cells.value("REM[-7,2]", -1);
        Cells.value("REM[7,-2]", 1);
        Cells.value("DIV[-1/0,-1]", -2147483648.0);
        Cells.value("REM[-1/0,-1]", 0);
        Cells.refused("DIV[1,0]", 6);
        Cells.refused("DIV[1,0.9]", 6);
        Cells.refused("REM[1,VACANT]", 6);
        Cells.value("DIV[VACANT,1]", 0);
        Cells.value("AND[12,10]", 8);
        Cells.value("OR[12,10]", 14);
        Cells.value("XOR[12,10]", 6);
        Cells.value("XOR[-1,1]", -2);
        Cells.value("AND[VACANT,10]", 0);
        Cells.value("SHL[1,31]", -2147483648.0);
        Cells.value("SHL[1,32]", 1);
        Cells.value("SHL[1,33]", 2);
        Cells.value("SHL[3,-1]", -2147483648.0);
        Cells.value("SHR[-8,1]", -4);
        Cells.value("SHR[-1/0,31]", -1);
        Cells.value("SHR[8,34]", 2);
        Cells.refused("POS[3]", 2);
        Cells.refused("POS[-1]", 2);
        Cells.value("POS[VACANT]", 0);
        Cells.value("POS[2.9]", 0);
        Cells.refused("HELD[6]", 2);
        Cells.refused("HELD[-1]", 2);
        Cells.value("HELD[5]", 0);
        Cells.refused("FEED", 1);
        Cells.refused("LEN[8]", 2);
        Cells.refused("LEN[0]", 1);
        Cells.refused("PORT[-1,0]", 2);
        Cells.refused("PORT[7,0]", 1);
        // From the left.
        Cells.refused("DIV[1,0]+PORT[8,0]", 6);
        Cells.refused("PORT[8,DIV[1,0]]", 6);
        Cells.value("WHY", 0);
        Cells.value("WHAT", V);
    }

    private static void parameters() {
        Cells.refused("#0", 2);
        Cells.refused("#27", 2);
        Cells.refused("#99", 2);
        Cells.refused("#150", 2);
        Cells.refused("#-1", 2);
        Cells.refused("#VACANT", 2);
        Cells.refused("#[1/0]", 2);
        Cells.value("#1", V);
        Cells.value("#26.9", V);
        Cells.value("#149", V);
        Cells.value("##100", 7, 101, 7);
        Cells.value("#[50*2]", 5, 5);
        Cells.value("#100", 0.25, 0.25);
        MillCell cell = Cells.of("O 1", "#1=5", "#26=6", "#101=7", "CALL 2 A #26 C VACANT B -#1", "PRINT #1", "PRINT #2", "O 2",
            "PRINT #1", "PRINT #2", "PRINT #3", "PRINT #26", "#1=99", "#26=98", "#101=8", "PRINT #15");
        Cells.prints(cell, 6, -5, V, V, V, 5, V);
        Cells.dueReal("real(0, 101)", cell.real(0, 101), 8);
        Cells.dueReal("real(7, 26)", cell.real(7, 26), 6);
        Cells.prints(Cells.of("O 1", "PRINT #100", "PRINT #1", "#1=5", "#100=6", "#-[-102]=3", "PRINT #102"), V, V, 3);
        MillCell order = Cells.of("O 1", "#0=DIV[1,0]", "O 2", "##0=DIV[1,0]", "O 3", "#27=1");
        order.run(1, 9);
        Cells.due("the Es first", order.told(0), 6);
        order.run(2, 9);
        Cells.due("from the left", order.told(0), 2);
        Cells.due("run(3, 9)", order.run(3, 9), 1);
        Cells.due("told(0)", order.told(0), 2);
    }
}
