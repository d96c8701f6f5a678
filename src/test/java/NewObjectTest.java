/** Promise 1: an empty tape, no program; all as at first. */
public final class NewObjectTest {
    public static void main(String[] args) {
        MillCell cell = new MillCell();
        Cells.due("NONE", MillCell.NONE, -1);
        for (int what = 0; what <= 7; what++) {
            Cells.due("told(" + what + ")", cell.told(what), 0);
        }
        for (int what = 0; what <= 13; what++) {
            Cells.due("count(" + what + ")", cell.count(what), 0);
        }
        int[] none = {-1, 8, Integer.MAX_VALUE, Integer.MIN_VALUE};
        for (int what : none) {
            Cells.due("told(" + what + ")", cell.told(what), -1);
            Cells.due("count(" + what + ")", cell.count(what), what == 8 ? 0 : -1);
        }
        Cells.due("count(14)", cell.count(14), -1);
        for (int where = -1; where <= 8; where++) {
            Cells.due("real(" + where + ", 0)", cell.real(where, 0), Cells.VACANT);
            Cells.due("real(" + where + ", 100)", cell.real(where, 100), Cells.VACANT);
        }
        for (int b = -1; b <= 8; b++) {
            Cells.due("bank(" + b + ")", cell.bank(b), -1);
            Cells.due("cell(" + b + ", 0)", cell.cell(b, 0), 0);
        }
        Cells.due("segment(0, 0)", cell.segment(0, 0), Cells.VACANT);
        for (int r = -2; r <= 4; r++) {
            for (int what = -1; what <= 6; what++) {
                Cells.due("pocket(" + r + ", 0, " + what + ")", cell.pocket(r, 0, what), -1);
            }
        }
        Cells.due("param(100, 0)", cell.param(100, 0), false);
        Cells.due("run(1, 1)", Cells.thrown(cell, 1, 1), Cells.STATE);
        Cells.due("run(-1, -1)", Cells.thrown(cell, -1, -1), Cells.STATE);
        Cells.due("back(0)", cell.back(0), 0);
        Cells.due("back(1)", cell.back(1), -1);
        eachHasItsOwn();
        Cells.end();
    }

    /** All memory is the cell's own. */
    private static void eachHasItsOwn() {
        MillCell one = Cells.of("O 1", "FIT 4,3", "PUT 4,1,7", "#100=5", "RACK 0,0,1", "LOAD 0,0,2", "TAKE 0,0", "X 3");
        MillCell other = Cells.of("O 1", "FIT 4,1");
        one.run(1, 100);
        other.run(1, 100);
        Cells.due("one bank(4)", one.bank(4), 3);
        Cells.due("other bank(4)", other.bank(4), 1);
        Cells.due("one cell(4, 1)", one.cell(4, 1), 7);
        Cells.due("other real(0, 100)", other.real(0, 100), Cells.VACANT);
        Cells.due("one count(12)", one.count(12), 1);
        Cells.due("other count(12)", other.count(12), 0);
        Cells.due("other count(8)", other.count(8), -1);
        Cells.dueReal("one real(1, 0)", one.real(1, 0), 3);
        Cells.dueReal("other real(1, 0)", other.real(1, 0), 0);
    }
}
