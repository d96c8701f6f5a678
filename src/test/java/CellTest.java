/** Promise 12: what is in a cell of a BANK. */
public final class CellTest {
    private static final double[] VALUES = {0, -0.0, 1, -1, 0.5, -0.5, 300.9, -70000.7, 2147483647.5, -3e9, 1e19, -1e19, 1e300,
        1e-300, Double.MIN_VALUE, 0.1, 16777217, 3.4028235677973366E38, 3.4028235677973362E38, 1.401298464324817E-45,
        7.006492321624086E-46, 1e-40, -1e-40, Double.POSITIVE_INFINITY, Double.NEGATIVE_INFINITY, Double.NaN, 65535, 9007199254740993.0};

    public static void main(String[] args) {
        StringBuilder s = new StringBuilder("O 1\n");
        for (int b = 0; b < 8; b++) {
            s.append("FIT ").append(b).append(",3\n");
        }
        s.append("O 2\n");
        for (int b = 0; b < 8; b++) {
            s.append("PUT ").append(b).append(",1,#100\nPRINT PORT[").append(b).append(",1]\n");
        }
        String[] lines = s.toString().split("\n");
        MillCell cell = Cells.of(lines);
        cell.run(1, 99);
        for (int b = 0; b < 8; b++) {
            for (int i = 0; i < 3; i++) {
                Cells.due("cell(" + b + ", " + i + ") at first", cell.cell(b, i), 0);
            }
        }
        for (double x : VALUES) {
            cell = Cells.of(lines);
            cell.run(1, 99);
            cell.param(100, Double.doubleToRawLongBits(x));
            Cells.due("run(2, 99)", cell.run(2, 99), 0);
            // To a FLOAT the nearest; VACANT is 0 there, as to an INT.
            float f = x != x ? 0 : (float) x;
            long[] want = {x != 0 ? 1 : 0, (byte) (int) x, (char) (int) x, (short) (int) x, (int) x, (long) x,
                Float.floatToIntBits(f), Double.doubleToLongBits(x)};
            double[] port = {want[0], want[1], want[2], want[3], want[4], (double) (long) x, f, x};
            for (int b = 0; b < 8; b++) {
                Cells.due("cell(" + b + ", 1) of " + x, cell.cell(b, 1), want[b]);
                Cells.dueReal("PORT[" + b + ",1] of " + x, cell.real(4, b), port[b]);
                Cells.due("cell(" + b + ", 0) of " + x, cell.cell(b, 0), 0);
                Cells.due("cell(" + b + ", 2) of " + x, cell.cell(b, 2), 0);
            }
        }
        int[] none = {-1, 3, Integer.MAX_VALUE, Integer.MIN_VALUE};
        for (int i : none) {
            Cells.due("cell(7, " + i + ")", cell.cell(7, i), 0);
        }
        cell.param(100, Cells.bits(5));
        cell.run(2, 99);
        int[] banks = {-1, 8, Integer.MAX_VALUE, Integer.MIN_VALUE};
        for (int b : banks) {
            Cells.due("cell(" + b + ", 1)", cell.cell(b, 1), 0);
        }
        Cells.due("cell(4, 1)", cell.cell(4, 1), 5);
        cell.read();
        Cells.due("cell(4, 1) without a program", cell.cell(4, 1), 0);
        Cells.end();
    }
}
