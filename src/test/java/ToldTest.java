/** Promise 7: what is told of the latest run. */
public final class ToldTest {
    public static void main(String[] args) {
        plain();
        many();
        Cells.end();
    }

    private static void plain() {
        MillCell cell = new MillCell();
        Cells.tape(cell, "O 1\n\n(here)\nCALL 2\n\nO 2\nF 100\nG 1 X 1\nX 1\nX 2\nG 4 P 5\nPRINT 1\nPRINT 2\nTRY\n#0=1\nON PLACE\n"
            + "END\nCALL 3\nO 3\n\nALARM 7\nO 4\nF 1");
        Cells.due("read()", cell.read(), 0);
        for (int what = 0; what <= 7; what++) {
            Cells.due("ahead of any: told(" + what + ")", cell.told(what), 0);
        }
        Cells.due("run(1, 100)", cell.run(1, 100), 1);
        int[] want = {10, 21, 12, 2, 3, 3, 3, 2};
        for (int what = 0; what <= 7; what++) {
            Cells.due("told(" + what + ")", cell.told(what), want[what]);
        }
        int[] none = {-1, 8, 9, Integer.MAX_VALUE, Integer.MIN_VALUE};
        for (int what : none) {
            Cells.due("told(" + what + ")", cell.told(what), -1);
        }
        Cells.due("run(4, 100)", cell.run(4, 100), 0);
        int[] other = {0, 0, 1, 0, 1, 0, 0, 0};
        for (int what = 0; what <= 7; what++) {
            Cells.due("told(" + what + ")", cell.told(what), other[what]);
        }
    }

    private static void many() {
        MillCell cell = Cells.of("O 1", "#1=0", "WHILE #1 LT 450", "#1=#1+1", "G 91 X[1-2*MOD[#1,2]]", "PRINT #1", "END", "X 9999");
        Cells.due("run(1, 5000)", cell.run(1, 5000), 1);
        Cells.due("told(5)", cell.told(5), 450);
        Cells.due("told(6)", cell.told(6), 400);
        Cells.due("told(7)", cell.told(7), 450);
        Cells.due("told(0)", cell.told(0), 8);
        Cells.due("told(1)", cell.told(1), 8);
        Cells.dueReal("real(4, 199)", cell.real(4, 199), 200);
        Cells.due("real(4, 200)", cell.real(4, 200), Cells.VACANT);
        Cells.dueReal("segment(399, 2)", cell.segment(399, 2), 1);
        Cells.due("segment(400, 2)", cell.segment(400, 2), Cells.VACANT);
    }
}
