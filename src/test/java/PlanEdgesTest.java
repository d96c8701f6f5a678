/** Part 5 of the terms, THE PLAN and THE WHOLE TIME: each edge that they name. */
public final class PlanEdgesTest {
    private static final double INF = Double.POSITIVE_INFINITY;

    private static double of(long bits) {
        return Double.longBitsToDouble(bits);
    }

    /** All J and TIMES once more from L, V, dx, dy, dz of what is told, by the document's words. */
    private static void planned(String what, MillCell cell) {
        int kept = cell.told(6);
        int[] way = new int[kept];
        int n = 0;
        for (int i = 0; i < kept; i++) {
            if (cell.segment(i, 5) != Cells.VACANT) {
                way[n] = i;
                n++;
            }
        }
        double[][] s = new double[n][5];
        for (int k = 0; k < n; k++) {
            for (int w = 0; w < 5; w++) {
                s[k][w] = of(cell.segment(way[k], w));
            }
        }
        double[] j = new double[n + 1];
        for (int k = 1; k < n; k++) {
            j[k] = Math.min(s[k - 1][1], s[k][1]) * turn(s[k - 1], s[k]);
        }
        for (int k = n - 1; k >= 0; k--) {
            j[k] = Math.min(j[k], Math.sqrt(j[k + 1] * j[k + 1] + 2 * 500.0 * s[k][0]));
        }
        for (int k = 0; k < n; k++) {
            j[k + 1] = Math.min(j[k + 1], Math.sqrt(j[k] * j[k] + 2 * 500.0 * s[k][0]));
        }
        double[] time = new double[kept];
        for (int i = 0; i < kept; i++) {
            time[i] = of(cell.segment(i, 6));
        }
        for (int k = 0; k < n; k++) {
            time[way[k]] = time(s[k][1], j[k], j[k + 1], s[k][0]);
            Cells.dueReal(what + ": J " + way[k], cell.segment(way[k], 5), j[k]);
            Cells.dueReal(what + ": TIME " + way[k], cell.segment(way[k], 6), time[way[k]]);
        }
        double whole = 0;
        for (int i = 0; i < kept; i++) {
            whole = whole + time[i];
        }
        Cells.dueReal(what + ": WHOLE TIME", cell.real(6, 0), whole);
    }

    private static double turn(double[] a, double[] b) {
        double c = (a[2] * b[2] + a[3] * b[3] + a[4] * b[4]) / (a[0] * b[0]);
        return Math.min(1, Math.max(0, (1 + c) / 2));
    }

    private static double time(double v, double a, double b, double l) {
        double p = Math.min(v, Math.sqrt((a * a + b * b) / 2 + 500 * l));
        return (p - a) / 500 + (p - b) / 500 + (l - (2 * p * p - a * a - b * b) / (2 * 500.0)) / p;
    }

    private static MillCell run(String text, double... params) {
        MillCell cell = Cells.of(("O 1;" + text).split("; ?"));
        for (int i = 0; i < params.length; i++) {
            cell.param(100 + i, Cells.bits(params[i]));
        }
        cell.run(1, 10000);
        planned(text, cell);
        return cell;
    }

    public static void main(String[] args) {
        few();
        endsAreAtRest();
        turns();
        turnsBeyondOne();
        lesserSpeed();
        reach();
        tops();
        least();
        dwellsPartNothing();
        wholeTimes();
        keptOnly();
        whateverEnds();
        nothingOfOlderRuns();
        Cells.end();
    }

    /** None, one, two. */
    private static void few() {
        MillCell cell = run("F 1");
        Cells.dueReal("none", cell.real(6, 0), 0);
        cell = run("X 10");
        Cells.dueReal("J 0", cell.segment(0, 5), 0);
        Cells.dueReal("one", cell.real(6, 0), time(6000, 0, 0, 10));
        cell = run("X 10;Y 10");
        Cells.dueReal("J 1", cell.segment(1, 5), Math.min(3000, Math.sqrt(1000 * 10.0)));
    }

    /** J(0) and J(n) are 0. */
    private static void endsAreAtRest() {
        MillCell cell = run("G 1 F 20 X 100");
        Cells.dueReal("J 0", cell.segment(0, 5), 0);
        Cells.dueReal("TIME", cell.segment(0, 6), time(20, 0, 0, 100));
        cell = run("G 1 F 20 X 100;X 200;X 300");
        Cells.dueReal("J 0", cell.segment(0, 5), 0);
        Cells.dueReal("J 1", cell.segment(1, 5), 20);
        Cells.dueReal("TIME of the last", cell.segment(2, 6), time(20, 20, 0, 100));
    }

    /** MIN[1, MAX[0, (1 + c) / 2]]: straight on 1, a right angle a half, back 0. */
    private static void turns() {
        MillCell cell = run("G 1 F 20 X 100;X 200");
        Cells.dueReal("straight on", cell.segment(1, 5), 20);
        cell = run("G 1 F 20 X 100;Y 100");
        Cells.dueReal("a right angle", cell.segment(1, 5), 10);
        cell = run("G 1 F 20 X 100;Z 100");
        Cells.dueReal("a right angle", cell.segment(1, 5), 10);
        cell = run("G 1 F 20 X 100;X 0");
        Cells.dueReal("back", cell.segment(1, 5), 0);
        // Slanting back: c is about -1, as doubles go below or above it.
        for (int n = 1; n <= 40; n++) {
            cell = run("G 91;G 1 F 20 X #100 Y #101 Z #102;X -#100 Y -#101 Z -#102;X #100 Y #101 Z #102;X #100 Y #101 Z #102", n * 0.13,
                7 - n * 0.31, n * 0.017);
            Cells.due("J 1 is not below 0", of(cell.segment(1, 5)) >= 0, true);
            Cells.due("J 3 is not above V", of(cell.segment(3, 5)) <= 20, true);
        }
    }

    /** c beyond 1 and -1 counts as these: a way too short to have its true length makes such a c. */
    private static void turnsBeyondOne() {
        // The square of 2.7e-162 is one and a half of the least REAL: L is too short by a fifth.
        MillCell cell = run("G 91;G 1 F #100 X #101;X 100", 1e-100, 2.7e-162);
        Cells.dueReal("c above 1", cell.segment(1, 5), 1e-100);
        cell = run("G 91;G 1 F #100 X #101;X -100", 1e-100, 2.7e-162);
        Cells.dueReal("c below -1", cell.segment(1, 5), 0);
    }

    /** J(i) between two is MIN of their Vs, times .. */
    private static void lesserSpeed() {
        Cells.dueReal("rising", run("G 1 F 20 X 100;F 30 X 200").segment(1, 5), 20);
        Cells.dueReal("falling", run("G 1 F 30 X 100;F 20 X 200").segment(1, 5), 20);
        Cells.dueReal("rapid and feed", run("X 100;G 1 F 20 Y 100").segment(1, 5), 10);
        MillCell cell = run("RACK 0,0,1;LOAD 0,0,3;TAKE 0,0;M 3 S 40;G 1 F 5 X 10;G 81 Z -8;X 20");
        Cells.dueReal("V of a G 81", cell.segment(1, 1), 20);
        Cells.dueReal("into it", cell.segment(1, 5), 2.5);
        Cells.dueReal("at its ground", cell.segment(2, 5), 0);
        Cells.dueReal("out of it", cell.segment(3, 5), 2.5);
    }

    /** i from n - 1 down to 0, then from 0 up: what A = 500 can reach on L. */
    private static void reach() {
        // Down: the last way of 1 can be stopped on from SQRT[1000].
        Cells.dueReal("down", run("G 1 F 6000 X 900;X 901").segment(1, 5), Math.sqrt(1000 * 1.0));
        // Up: the first way of 1 leads up to as much.
        Cells.dueReal("up", run("G 1 F 6000 X 1;X 901").segment(1, 5), Math.sqrt(1000 * 1.0));
        // Just what can be reached.
        double v = 10;
        Cells.dueReal("just", run("G 1 F 10 X 0.1;X 0.2").segment(1, 5), Math.min(v, Math.sqrt(1000 * (0.2 - 0.1))));
        run("G 1 F 1000000 X 1;X 3;X 6;X 10;X 15;X 21;X 28;X 36;X 45;X 55");
        run("G 1 F 1000000 X 55;X 45;X 36;X 28;X 21;X 15;X 10;X 6;X 3;X 1");
        run("X 100;Y 100;X 0;Y 0;Z 50;X 1 Y 1 Z 49;X 2 Y 2 Z 48");
        run("G 1 F 100 X 1;F 50 X 2;F 200 Y 1;G 0 Z 7;G 1 F 3 X 100;G 0 X 5 Y 6 Z 7;Y 0");
    }

    /** p = MIN[V, SQRT[(a * a + b * b) / 2 + A * L]]. */
    private static void tops() {
        // 0.8 units: up to 20 on 0.4 and down again: p is V just so.
        Cells.dueReal("just V", run("G 1 F 20 X 0.8").segment(0, 6), time(20, 0, 0, 0.8));
        run("G 1 F 20 X 0.79");
        run("G 1 F 20 X 0.81");
        run("G 1 F 1000000 X 1000");
        run("G 1 F 1000000 X -1000;X 1000;X -1000");
    }

    /** The least lengths and speeds. */
    private static void least() {
        MillCell cell = run("G 1 F #100 X 1", Double.MIN_VALUE);
        Cells.dueReal("a TIME beyond all", cell.segment(0, 6), INF);
        Cells.dueReal("WHOLE TIME", cell.real(6, 0), INF);
        run("G 1 F #100 X 1", 1e-300);
        run("G 1 F #100 X 1;X 2", 1e-160);
        run("G 91;G 1 F 5 X #100;X #100;Y #100", 1.6e-162);
        run("G 91;X #100;X #100;Y #100;X 1", 1e-100);
    }

    /** A dwell's TIME is P / 1000, its J is not looked at (it parts nothing). */
    private static void dwellsPartNothing() {
        MillCell with = run("G 4 P 1;G 1 F 20 X 100;G 4 P 2;G 4 P 3;X 200;G 4 P 4;Y 100;G 4 P 5");
        MillCell without = run("G 1 F 20 X 100;X 200;Y 100");
        int[] at = {1, 4, 6};
        for (int k = 0; k < 3; k++) {
            for (int what = 0; what <= 6; what++) {
                Cells.due("segment(" + k + ", " + what + ")", with.segment(at[k], what), without.segment(k, what));
            }
        }
        double[] dwells = {1, 2, 3, 4, 5};
        int[] places = {0, 2, 3, 5, 7};
        for (int k = 0; k < 5; k++) {
            Cells.dueReal("TIME", with.segment(places[k], 6), dwells[k] / 1000);
            Cells.due("J", with.segment(places[k], 5), Cells.VACANT);
        }
        run("G 4 P 1");
        run("G 4 P 1;G 4 P 2");
    }

    /** THE WHOLE TIME: the sum of TIMES, in order, from 0 on. */
    private static void wholeTimes() {
        Cells.dueReal("in order", run("G 4 P 100;G 4 P 200;G 4 P 300").real(6, 0), 0.1 + 0.2 + 0.3);
        Cells.dueReal("in order", run("G 4 P 300;G 4 P 200;G 4 P 100").real(6, 0), 0.3 + 0.2 + 0.1);
        Cells.dueReal("from 0 on", run("G 4 P -0").real(6, 0), 0);
        Cells.dueReal("infinite", run("G 4 P[1/0];X 5;G 4 P[1/0]").real(6, 0), INF);
        MillCell cell = Cells.of("O 1", "X 5");
        Cells.due("VACANT ahead of any run", cell.real(6, 0), Cells.VACANT);
        cell.run(1, 0);
        Cells.dueReal("0 behind one", cell.real(6, 0), 0);
        Cells.tape(cell, "O 1");
        cell.read();
        Cells.due("VACANT ahead of any run since read()", cell.real(6, 0), Cells.VACANT);
    }

    /** Of the SEGMENTS kept: the 400th is the last, and ends at rest. */
    private static void keptOnly() {
        String ways = "G 91;G 1 F 20;#1=#100;WHILE #1;#1=#1-1;X 1;END";
        for (int n : new int[] {399, 400, 401}) {
            MillCell cell = Cells.of(("O 1;" + ways).split(";"));
            cell.param(100, Cells.bits(n));
            cell.run(1, 10000);
            int last = Math.min(n, 400) - 1;
            Cells.dueReal("J of the last", cell.segment(last, 5), 20);
            Cells.dueReal("TIME of the last", cell.segment(last, 6), time(20, 20, 0, 1));
            Cells.dueReal("TIME of the one ahead", cell.segment(last - 1, 6), time(20, 20, 20, 1));
            double whole = 0;
            for (int i = 0; i <= last; i++) {
                whole = whole + time(20, i == 0 ? 0 : 20, i == last ? 0 : 20, 1);
            }
            Cells.dueReal("WHOLE TIME of " + n, cell.real(6, 0), whole);
        }
        // A dwell that isn't kept has no TIME.
        MillCell cell = Cells.of(("O 1;" + ways + ";G 4 P 5000").split(";"));
        cell.param(100, Cells.bits(400));
        cell.run(1, 10000);
        double whole = of(cell.real(6, 0));
        cell.param(100, Cells.bits(399));
        cell.run(1, 10000);
        Cells.due("5 seconds more", of(cell.real(6, 0)) - whole > 4.9, true);
    }

    /** When a run has ended, whichever way. */
    private static void whateverEnds() {
        String ways = "G 1 F 20 X 100;X 200;";
        double whole = 0.0 + time(20, 0, 20, 100) + time(20, 20, 0, 100);
        String[] ends = {"RETURN", "ALARM 1", "WHILE 1;END", "CALL 1", "FIT 0,100000", "X 5000"};
        for (String end : ends) {
            MillCell cell = Cells.of(("O 2;" + ways + "CALL 1;O 1;" + end).split(";"));
            cell.run(2, 50);
            Cells.due("told(5) by " + end, cell.told(5), 2);
            Cells.dueReal("WHOLE TIME by " + end, cell.real(6, 0), whole);
        }
    }

    /** A run's PLAN is of its own SEGMENTS, though an older run had more. */
    private static void nothingOfOlderRuns() {
        MillCell cell = Cells.of("O 1", "G 1 F 50", "X 100", "G 4 P 9", "X 200", "Y 50", "X 300", "Y 0", "X 0", "O 2", "F 20", "X 10",
            "X 20", "O 3", "G 4 P 7", "O 4", "Y 0", "O 5",
            "X 0", "G 4 P 1", "X 30");
        cell.run(1, 99);
        planned("the first", cell);
        cell.run(2, 99);
        planned("the second", cell);
        Cells.dueReal("WHOLE TIME", cell.real(6, 0), time(20, 0, 20, 10) + time(20, 20, 0, 10));
        cell.run(1, 99);
        cell.run(3, 99);
        Cells.dueReal("a dwell alone", cell.real(6, 0), 0.007);
        cell.run(1, 99);
        cell.run(4, 99);
        Cells.dueReal("nothing", cell.real(6, 0), 0);
        Cells.due("segment(0, 0)", cell.segment(0, 0), Cells.VACANT);
        cell.run(1, 99);
        cell.run(5, 99);
        planned("the last", cell);
        Cells.due("a dwell where none was", cell.segment(0, 5), Cells.VACANT);
    }
}
