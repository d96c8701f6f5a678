/** Promise 10: what a SEGMENT has. */
public final class SegmentTest {
    public static void main(String[] args) {
        MillCell cell = Cells.of("O 1", "G 1 F 120 X 3 Y 4", "G 4 P 250", "G 0 Z -2", "Z -2", "G 91 X -1", "O 2", "G 4 P 0");
        Cells.due("segment ahead of any run", cell.segment(0, 0), Cells.VACANT);
        Cells.due("run(1, 9)", cell.run(1, 9), 0);
        double[][] want = {{5, 120, 3, 4, 0}, {0, 0, 0, 0, 0}, {2, 6000, 0, 0, -2}, {1, 6000, -1, 0, 0}};
        for (int i = 0; i < 4; i++) {
            for (int what = 0; what <= 4; what++) {
                Cells.dueReal("segment(" + i + ", " + what + ")", cell.segment(i, what), want[i][what]);
            }
        }
        // Right angles: half of the lesser speed, 60 and 3000, less what 2 and 1 can stop from: SQRT[1000 * L].
        double stop = Math.sqrt(1000 * 1.0);
        Cells.dueReal("J 0", cell.segment(0, 5), 0);
        Cells.due("a dwell's J", cell.segment(1, 5), Cells.VACANT);
        double j1 = Math.min(60, Math.sqrt(stop * stop + 1000 * 2.0));
        double j2 = Math.min(stop, Math.sqrt(j1 * j1 + 2000));
        j1 = Math.min(j1, Math.sqrt(5000));
        Cells.dueReal("J 2", cell.segment(2, 5), j1);
        Cells.dueReal("J 3", cell.segment(3, 5), j2);
        Cells.dueReal("the dwell's TIME", cell.segment(1, 6), 0.25);
        // From 0 to j1 on 5 units: the top is SQRT[j1 * j1 / 2 + 500 * 5], below 120.
        double p = Math.min(120, Math.sqrt((0.0 + j1 * j1) / 2 + 500 * 5.0));
        Cells.dueReal("TIME 0", cell.segment(0, 6),
            (p - 0) / 500 + (p - j1) / 500 + (5 - (2 * p * p - 0 - j1 * j1) / (2 * 500)) / p);
        int[] none = {-1, 7, 8, Integer.MAX_VALUE, Integer.MIN_VALUE};
        for (int what : none) {
            Cells.due("segment(0, " + what + ")", cell.segment(0, what), Cells.VACANT);
        }
        int[] absent = {-1, 4, 400, Integer.MAX_VALUE, Integer.MIN_VALUE};
        for (int i : absent) {
            Cells.due("segment(" + i + ", 0)", cell.segment(i, 0), Cells.VACANT);
        }
        Cells.due("run(2, 9)", cell.run(2, 9), 0);
        Cells.dueReal("segment(0, 6)", cell.segment(0, 6), 0);
        Cells.due("segment(1, 0)", cell.segment(1, 0), Cells.VACANT);
        cell.read();
        Cells.due("segment without a program", cell.segment(0, 0), Cells.VACANT);
        Cells.end();
    }
}
