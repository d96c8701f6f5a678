/** Promise 8: what is counted. */
public final class CountTest {
    private static void counts(MillCell cell, int... want) {
        for (int what = 0; what < want.length; what++) {
            Cells.due("count(" + what + ")", cell.count(what), want[what]);
        }
    }

    public static void main(String[] args) {
        MillCell cell = Cells.of("(nothing)", "O 1", "", "G 1 M 3 (both)", "G 56", "M 8", "G 91", "RACK 1,3,2", "FIT 0,5", "O 2",
            "LOAD 1,0,4", "LOAD 1,1,3", "TAKE 1,0", "S 2", "G 81 Z 1", "G 84 Z 0", "O 3", "M 5", "M 9", "G 0", "G 54", "G 90",
            "BACK 1,0", "ALARM 0");
        Cells.due("count(0)", cell.count(0), 68);
        Cells.due("count(1)", cell.count(1), 22);
        Cells.due("count(2)", cell.count(2), 3);
        counts(cell, 68, 22, 3, 0, 1, 0, 0, 0, -1, 0, 0, 0, 0, 0);
        Cells.due("run(1, 99)", cell.run(1, 99), 0);
        counts(cell, 68, 22, 3, 1, 0, 2, 1, 1, -1, 0, 0, 9, 0, 0);
        Cells.due("run(2, 99)", cell.run(2, 99), 0);
        counts(cell, 68, 22, 3, 1, 0, 2, 1, 1, 4, 1, 2, 9, 2, 0);
        Cells.due("run(3, 99)", cell.run(3, 99), 1);
        counts(cell, 68, 22, 3, 0, 1, 0, 0, 0, -1, 0, 0, 9, 2, 1);
        int[] none = {-1, 14, 15, Integer.MAX_VALUE, Integer.MIN_VALUE};
        for (int what : none) {
            Cells.due("count(" + what + ")", cell.count(what), -1);
        }
        Cells.due("read() of nothing", cell.read(), 18);
        counts(cell, 0, 0, 0, 0, 0, 0, 0, 0, 0, 0, 0, 9, 2, 1);
        for (int what : none) {
            Cells.due("count(" + what + ")", cell.count(what), -1);
        }
        Cells.end();
    }
}
