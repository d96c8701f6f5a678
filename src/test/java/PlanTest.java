/** Part 5 of the terms: THE PLAN and THE WHOLE TIME, by formulas written out here. */
public final class PlanTest {
    private static double top(double v, double a, double b, double l) {
        return Math.min(v, Math.sqrt((a * a + b * b) / 2 + 500 * l));
    }

    private static double time(double v, double a, double b, double l) {
        double p = top(v, a, b, l);
        return (p - a) / 500 + (p - b) / 500 + (l - (2 * p * p - a * a - b * b) / (2 * 500.0)) / p;
    }

    public static void main(String[] args) {
        straight();
        turns();
        slants();
        dwellsPartNothing();
        endedOtherwise();
        keptOnes();
        Cells.end();
    }

    private static void straight() {
        MillCell cell = Cells.of("O 1", "X 1000", "O 2", "G 1 F 30 X 900");
        cell.run(1, 9);
        // 1000 units at 6000: the top is SQRT[500 * 1000], about 707.1, so 2.828 seconds.
        Cells.dueReal("TIME", cell.segment(0, 6), time(6000, 0, 0, 1000));
        Cells.dueReal("WHOLE TIME", cell.real(6, 0), time(6000, 0, 0, 1000));
        Cells.due("about 2.828", Math.abs(Double.longBitsToDouble(cell.real(6, 0)) - 2.8284271247461903) < 1e-9, true);
        cell.run(2, 9);
        // 100 units at 30: up and down 0.06 s each on 0.9 units each, and 98.2 units at 30.
        Cells.dueReal("TIME", cell.segment(0, 6), time(30, 0, 0, 100));
        Cells.due("about 3.393", Math.abs(Double.longBitsToDouble(cell.real(6, 0)) - (0.12 + 98.2 / 30)) < 1e-9, true);
    }

    private static void turns() {
        MillCell cell = Cells.of("O 1", "G 1 F 40 X 100", "F 60 X 200", "Y 100", "Y 0", "Y -50 X 150");
        cell.run(1, 9);
        double slant = Math.sqrt(50 * 50 + 50 * 50);
        double[] l = {100, 100, 100, 100, slant};
        double[] v = {40, 60, 60, 60, 60};
        double c = (0 * -50.0 + -100 * -50.0 + 0) / (100 * slant);
        // Straight on, a right angle, back, and an eighth of a turn.
        double[] j = {0, 40, 30, 0, 60 * ((1 + c) / 2), 0};
        double sum = 0;
        for (int i = 0; i < 5; i++) {
            Cells.dueReal("J " + i, cell.segment(i, 5), j[i]);
            Cells.dueReal("TIME " + i, cell.segment(i, 6), time(v[i], j[i], j[i + 1], l[i]));
            sum = sum + time(v[i], j[i], j[i + 1], l[i]);
        }
        Cells.dueReal("WHOLE TIME", cell.real(6, 0), sum);
    }

    /** In all three directions, some of them with a c above 1, as doubles go. */
    private static void slants() {
        int above = 0;
        for (int n = 1; n <= 60; n++) {
            double[] d = {n * 0.1, n * 0.07 + 0.3, 1.1 - n * 0.03};
            MillCell cell = Cells.of("O 1", "G 91", "G 1 F 5", "X #100 Y #101 Z #102", "X #100 Y #101 Z #102", "X #100 Y #101 Z -#102");
            for (int i = 0; i < 3; i++) {
                cell.param(100 + i, Cells.bits(d[i]));
            }
            cell.run(1, 9);
            double[][] s = new double[3][4];
            for (int i = 0; i < 3; i++) {
                for (int k = 0; k < 4; k++) {
                    s[i][k] = Double.longBitsToDouble(cell.segment(i, k == 0 ? 0 : k + 1));
                }
            }
            for (int i = 1; i < 3; i++) {
                double[] p = s[i - 1];
                double[] q = s[i];
                double c = (p[1] * q[1] + p[2] * q[2] + p[3] * q[3]) / (p[0] * q[0]);
                above += c > 1 ? 1 : 0;
                Cells.dueReal("J " + i + " of slant " + n, cell.segment(i, 5), 5 * Math.min(1, Math.max(0, (1 + c) / 2)));
            }
        }
        Cells.due("some c above 1", above > 0, true);
    }

    private static void dwellsPartNothing() {
        MillCell cell = Cells.of("O 1", "G 4 P 100", "G 1 F 40 X 100", "G 4 P 200", "G 4 P 300", "X 200", "G 4 P 400");
        cell.run(1, 9);
        Cells.due("J of a dwell", cell.segment(0, 5), Cells.VACANT);
        Cells.dueReal("J 1", cell.segment(1, 5), 0);
        Cells.dueReal("J 4", cell.segment(4, 5), 40);
        double one = time(40, 0, 40, 100);
        double two = time(40, 40, 0, 100);
        Cells.dueReal("WHOLE TIME", cell.real(6, 0), 0 + 100 / 1000.0 + one + 200 / 1000.0 + 300 / 1000.0 + two + 400 / 1000.0);
        MillCell alone = Cells.of("O 1", "G 4 P 100");
        alone.run(1, 9);
        Cells.dueReal("dwells alone", alone.real(6, 0), 0.1);
    }

    private static void endedOtherwise() {
        MillCell cell = Cells.of("O 1", "G 1 F 40 X 100", "X 200", "ALARM 1", "O 2", "X 0");
        Cells.due("run(1, 9)", cell.run(1, 9), 1);
        Cells.dueReal("WHOLE TIME by an alarm", cell.real(6, 0), time(40, 0, 40, 100) + time(40, 40, 0, 100));
        Cells.due("run(2, 0)", cell.run(2, 0), 2);
        Cells.dueReal("WHOLE TIME of nothing", cell.real(6, 0), 0);
        Cells.due("segment(0, 0)", cell.segment(0, 0), Cells.VACANT);
        Cells.due("run(1, 1)", cell.run(1, 1), 2);
        Cells.dueReal("WHOLE TIME by STEPS", cell.real(6, 0), time(40, 0, 0, 100));
    }

    private static void keptOnes() {
        MillCell cell = Cells.of("O 1", "G 91", "#1=0", "WHILE #1 LT 500", "#1=#1+1", "X 1", "END");
        cell.run(1, 9999);
        Cells.due("told(5)", cell.told(5), 500);
        // A straight way of 400 units: up to the half, then down, each J what 1000 * L from its end gives.
        Cells.dueReal("J 0", cell.segment(0, 5), 0);
        double j = 0;
        for (int i = 1; i <= 200; i++) {
            j = Math.sqrt(j * j + 1000 * 1.0);
            Cells.dueReal("J " + i, cell.segment(i, 5), j);
            Cells.dueReal("J " + (400 - i), cell.segment(400 - i, 5), j);
        }
        Cells.due("segment(400, 5)", cell.segment(400, 5), Cells.VACANT);
    }
}
