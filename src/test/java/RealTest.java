/** Promise 9: bits of REALS. */
public final class RealTest {
    private static void vacant(MillCell cell, int where, int... places) {
        for (int i : places) {
            Cells.due("real(" + where + ", " + i + ")", cell.real(where, i), Cells.VACANT);
        }
    }

    public static void main(String[] args) {
        MillCell cell = Cells.of("O 1", "#1=11", "#26=-0", "#100=1/3", "#149=-1/0", "G 57", "G 92 X 1.5 Y -2 Z [1/0]", "G 54",
            "G 92 Z -0", "G 90 X 3 Y -4.25 F 12 S 34.5", "G 4 P 500", "PRINT 5", "PRINT VACANT", "PRINT 0/-1", "CALL 2 A 9",
            "O 2", "#1=77", "#100=#100*3", "ALARM #1+1", "O 3", "G 91", "O 4", "ALARM VACANT");
        vacant(cell, 4, 0);
        vacant(cell, 5, 0);
        vacant(cell, 6, 0);
        vacant(cell, 7, 1, 26);
        Cells.due("run(1, 99)", cell.run(1, 99), 1);
        Cells.dueReal("real(0, 100)", cell.real(0, 100), 1.0 / 3 * 3);
        Cells.dueReal("real(0, 149)", cell.real(0, 149), Double.NEGATIVE_INFINITY);
        vacant(cell, 0, 99, 101, 148, 150, 0, 1, -1, Integer.MIN_VALUE, Integer.MAX_VALUE);
        Cells.dueReal("real(1, 0)", cell.real(1, 0), 3);
        Cells.dueReal("real(1, 1)", cell.real(1, 1), -4.25);
        Cells.dueReal("real(1, 2)", cell.real(1, 2), 0);
        vacant(cell, 1, -1, 3);
        double[] offsets = {0, 0, -0.0, 0, 0, 0, 0, 0, 0, 1.5, -2, Double.POSITIVE_INFINITY};
        for (int i = 0; i < 12; i++) {
            Cells.dueReal("real(2, " + i + ")", cell.real(2, i), offsets[i]);
        }
        vacant(cell, 2, -1, 12);
        Cells.dueReal("real(3, 0)", cell.real(3, 0), 12);
        Cells.dueReal("real(3, 1)", cell.real(3, 1), 34.5);
        vacant(cell, 3, -1, 2);
        Cells.dueReal("real(4, 0)", cell.real(4, 0), 5);
        Cells.dueReal("real(4, 2)", cell.real(4, 2), -0.0);
        vacant(cell, 4, 1, 3, -1, 200, Integer.MAX_VALUE);
        Cells.dueReal("real(5, 0)", cell.real(5, 0), 78);
        vacant(cell, 5, 1, -1);
        // The way has 5.25 at 6000: from 0 up and down again in 2 * SQRT[L / A]; and half a second's dwell.
        double p = Math.sqrt(500 * Math.sqrt(9 + 4.25 * 4.25));
        double l = Math.sqrt(9 + 4.25 * 4.25);
        double time = p / 500 + p / 500 + (l - 2 * p * p / 1000) / p;
        Cells.dueReal("real(6, 0)", cell.real(6, 0), time + 0.5);
        vacant(cell, 6, 1, -1);
        // Of run()'s PROGRAM, though the alarm was met in what it called.
        Cells.dueReal("real(7, 1)", cell.real(7, 1), 11);
        Cells.dueReal("real(7, 26)", cell.real(7, 26), -0.0);
        vacant(cell, 7, 0, 2, 27, 28, -1, 100);
        vacant(cell, 8, 0, 1, 100);
        vacant(cell, -1, 0, 1, 100);
        Cells.due("run(3, 9)", cell.run(3, 9), 0);
        vacant(cell, 4, 0);
        vacant(cell, 5, 0);
        vacant(cell, 7, 1, 26);
        Cells.dueReal("real(6, 0)", cell.real(6, 0), 0);
        Cells.dueReal("real(1, 0)", cell.real(1, 0), 3);
        Cells.due("run(4, 9)", cell.run(4, 9), 1);
        vacant(cell, 5, 0);
        cell.read();
        for (int where = 0; where <= 7; where++) {
            vacant(cell, where, 0, 1, 100);
        }
        Cells.end();
    }
}
