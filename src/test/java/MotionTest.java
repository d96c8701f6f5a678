/** Part 5 of the terms: MOTIONS and their alarms. */
public final class MotionTest {
    public static void main(String[] args) {
        words();
        ways();
        offsets();
        dwells();
        drills();
        wear();
        Cells.end();
    }

    private static void words() {
        int[] known = {0, 1, 54, 55, 56, 57, 90, 91, 92};
        for (int g = -2; g <= 100; g++) {
            boolean plain = false;
            for (int k : known) {
                plain |= k == g;
            }
            if (g != 4 && g != 81 && g != 84) {
                Cells.done(plain ? 0 : 9, "G [" + g + "]");
            }
        }
        for (int m = -2; m <= 12; m++) {
            Cells.done(m == 3 || m == 5 || m == 8 || m == 9 ? 0 : 9, "M [" + m + "]");
        }
        Cells.done(0, "G 1.9");
        Cells.done(0, "G -0.9");
        Cells.done(9, "G [1/0]");
        Cells.done(0, "M 3.9");
        Cells.done(0, "F 1000000 S 0");
        Cells.done(8, "F 1000000.1");
        Cells.done(8, "F -0.1");
        Cells.done(0, "F -0");
        Cells.done(8, "S 1000000.1");
        Cells.done(8, "S [1/0]");
        Cells.done(7, "X VACANT");
        for (char c : "GMXYZFSP".toCharArray()) {
            Cells.done(7, c + " VACANT");
        }
        Cells.done(7, "G VACANT");
        Cells.done(6, "X VACANT Y DIV[1,0]");
        Cells.done(7, "G 3 X VACANT");
        // LACK and LIMIT of G, M, F, S are ahead of all that is done.
        MillCell cell = Cells.done(8, "G 1 M 3 F 5 S -1");
        Cells.due("count(3)", cell.count(3), 0);
        Cells.due("count(6)", cell.count(6), 0);
        Cells.dueReal("F", cell.real(3, 0), 0);
        Cells.done(9, "G 3 F -1");
        Cells.done(9, "F -1 M 4");
        // What comes behind them finds them done.
        cell = Cells.done(8, "G 1 M 3 F 5 S 6 X 2000");
        Cells.due("count(3)", cell.count(3), 1);
        Cells.due("count(6)", cell.count(6), 1);
        Cells.dueReal("F", cell.real(3, 0), 5);
        Cells.dueReal("S", cell.real(3, 1), 6);
        Cells.position(cell, 0, 0, 0);
        Cells.due("told(5)", cell.told(5), 0);
    }

    private static void ways() {
        Cells.position(Cells.done(0, "X 1 Y 2 Z 3;X 4"), 4, 2, 3);
        Cells.position(Cells.done(0, "X 1 Y 2 Z 3;G 91 X 4 Z -1;Z 5"), 5, 2, 7);
        Cells.position(Cells.done(0, "G 91 X 4;G 90 X 4"), 4, 0, 0);
        Cells.done(9, "G 1 X 1");
        Cells.done(9, "G 1 F 0 X 1");
        Cells.done(9, "G 1 F -0 X 1");
        Cells.done(0, "G 1 F 0");
        Cells.done(9, "G 1 X 2000");
        Cells.position(Cells.done(0, "G 1 F 2 X 1"), 1, 0, 0);
        Cells.position(Cells.done(0, "X 1000 Y -1000"), 1000, -1000, 0);
        Cells.done(8, "X 1000.1");
        Cells.done(8, "Y -1000.1");
        Cells.done(8, "Z [1/0]");
        Cells.done(8, "G 91 X [-1/0]");
        Cells.position(Cells.done(8, "X 600;G 91 X 400.5"), 600, 0, 0);
        // No length, no SEGMENT; so with a length that is too small to be told.
        MillCell cell = Cells.of("O 1", "X 0", "X #100", "Y 0 Z 0");
        cell.param(100, Cells.bits(1e-200));
        Cells.due("run(1, 9)", cell.run(1, 9), 0);
        Cells.due("told(5)", cell.told(5), 0);
        Cells.position(cell, 1e-200, 0, 0);
        // Other LETTERS don't matter.
        Cells.position(Cells.done(0, "X 1 P -5"), 1, 0, 0);
        Cells.position(Cells.done(0, "X -0"), 0, 0, 0);
    }

    private static void offsets() {
        Cells.position(Cells.done(0, "G 92 X 10 Z 20;X 1;Y 1;Z 1"), 11, 1, 21);
        Cells.position(Cells.done(0, "G 92 X 10;G 55;X 1;G 92 X 3;X 1;G 54 X 1"), 11, 0, 0);
        Cells.position(Cells.done(0, "G 55;G 92 Y 10;G 54 Y 1;G 55 Y 1"), 0, 11, 0);
        Cells.position(Cells.done(0, "G 92 X 10;G 91 X 1"), 1, 0, 0);
        Cells.position(Cells.done(0, "G 92 X 5000;X -4500"), 500, 0, 0);
        Cells.done(8, "G 92 X 5000;X 0");
        Cells.done(8, "G 92 X [1/0];X [-1/0]");
        Cells.done(8, "G 92 X [1/0];X 0");
        Cells.position(Cells.done(0, "G 92 X [1/0];Y 4"), 0, 4, 0);
        MillCell cell = Cells.done(0, "G 57;G 92 X 1 Y 2;G 92 Z 3");
        Cells.dueReal("real(2, 9)", cell.real(2, 9), 1);
        Cells.dueReal("real(2, 10)", cell.real(2, 10), 2);
        Cells.dueReal("real(2, 11)", cell.real(2, 11), 3);
        Cells.due("told(5)", cell.told(5), 0);
        Cells.done(0, "G 1;G 92 X 3");
    }

    private static void dwells() {
        Cells.done(9, "G 4");
        Cells.done(9, "G 4 X 5");
        Cells.done(8, "G 4 P -0.1");
        MillCell cell = Cells.done(0, "G 4 P 1500 X 5 F 3;G 4 P 0;G 4 P -0;G 4 P [1/0]");
        Cells.position(cell, 0, 0, 0);
        Cells.due("told(5)", cell.told(5), 4);
        Cells.dueReal("segment(0, 6)", cell.segment(0, 6), 1.5);
        Cells.dueReal("segment(2, 6)", cell.segment(2, 6), -0.0);
        Cells.dueReal("real(6, 0)", cell.real(6, 0), Double.POSITIVE_INFINITY);
        Cells.dueReal("real(3, 0)", cell.real(3, 0), 3);
        Cells.due("count(3)", cell.count(3), 0);
    }

    private static void drills() {
        String drill = "RACK 0,0,3;LOAD 0,0,3;LOAD 0,1,4;LOAD 0,2,1;TAKE 0,0;";
        Cells.done(1, "G 81 Z 1");
        Cells.done(1, "G 84");
        Cells.done(4, drill + "TAKE 0,2;G 81");
        Cells.done(4, drill + "G 84 Z 1");
        Cells.done(9, drill + "M 3 S 100;G 81 X 1");
        Cells.done(9, drill + "S 100;G 81 Z 1");
        Cells.done(9, drill + "S 100;G 81 Z 2000");
        Cells.done(8, drill + "M 3;G 81 Z 2000");
        Cells.done(9, drill + "M 3;G 81 Z 2");
        MillCell cell = Cells.done(0, drill + "X 5 Z 10;G 92 Z 1;G 91;G 90 M 3;G 81 S 100 X 7 Y 8 Z -3");
        Cells.position(cell, 5, 0, 10);
        Cells.due("told(5)", cell.told(5), 3);
        double[][] want = {{12, 50, 0, 0, -12}, {12, 50, 0, 0, 12}};
        for (int i = 0; i < 2; i++) {
            for (int what = 0; what <= 4; what++) {
                Cells.dueReal("segment(" + (i + 1) + ", " + what + ")", cell.segment(i + 1, what), want[i][what]);
            }
        }
        Cells.due("count(10)", cell.count(10), 1);
        Cells.due("no WEAR", cell.pocket(-1, 0, 3), 0);
        cell = Cells.done(0, drill + "TAKE 0,1;G 91;Z 5;G 81 M 3 Z -2;G 84 S 3 Z -2");
        Cells.due("told(5)", cell.told(5), 5);
        Cells.dueReal("V of a TAP without S", cell.segment(1, 1), 0.5);
        Cells.dueReal("V of a TAP", cell.segment(3, 1), 5);
        Cells.dueReal("dz", cell.segment(3, 4), -2);
        Cells.position(cell, 0, 0, 5);
        Cells.due("count(10)", cell.count(10), 2);
        // No way: no SEGMENT, but a use.
        cell = Cells.done(0, drill + "M 3 S 1;G 1;G 81 Z 0");
        Cells.due("told(5)", cell.told(5), 0);
        Cells.due("count(10)", cell.count(10), 1);
        cell = Cells.done(8, drill + "G 81 M 3 S 7 F 8 Z 1001");
        Cells.dueReal("S", cell.real(3, 1), 7);
        Cells.due("count(10)", cell.count(10), 0);
    }

    private static void wear() {
        String mill = "RACK 0,0,1;LOAD 0,0,1;TAKE 0,0;";
        float w = 0f;
        w = w + (float) 10.0 * 0.001953125f;
        w = w + (float) Math.sqrt(0.1 * 0.1 + 0.2 * 0.2) * 0.001953125f;
        MillCell cell = Cells.done(0, mill + "M 3 F 5;G 1 X 10;G 91 Y 0.1 Z 0.2");
        Cells.due("WEAR", cell.pocket(-1, 0, 3), Float.floatToIntBits(w));
        Cells.due("WEAR with the spindle off", Cells.done(0, mill + "F 5;G 1 X 10").pocket(-1, 0, 3), 0);
        Cells.due("WEAR with motion 0", Cells.done(0, mill + "M 3;X 10").pocket(-1, 0, 3), 0);
        Cells.due("WEAR without a TOOL", Cells.done(0, "M 3 F 5;G 1 X 10").pocket(-1, 0, 3), 0);
        Cells.due("USES", cell.count(10), 0);
        // SEGMENTS that are not kept do all else.
        MillCell many = Cells.of("O 1", "RACK 0,0,1", "LOAD 0,0,1", "TAKE 0,0", "G 91 M 3 F 9", "G 1", "#1=0", "WHILE #1 LT 450",
            "#1=#1+1", "X 1", "END");
        Cells.due("run(1, 9999)", many.run(1, 9999), 0);
        float sum = 0f;
        for (int n = 0; n < 450; n++) {
            sum = sum + 1f * 0.001953125f;
        }
        Cells.due("WEAR of 450", many.pocket(-1, 0, 3), Float.floatToIntBits(sum));
        Cells.dueReal("X", many.real(1, 0), 450);
    }
}
