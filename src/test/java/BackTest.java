/** Promise 3: the last n bytes go. */
public final class BackTest {
    public static void main(String[] args) {
        MillCell cell = new MillCell();
        Cells.due("back(0)", cell.back(0), 0);
        Cells.due("back(-1)", cell.back(-1), -1);
        Cells.due("back(least)", cell.back(Integer.MIN_VALUE), -1);
        Cells.due("back(1)", cell.back(1), -1);
        Cells.tape(cell, "O 3\nPRINT 12");
        Cells.due("back(0)", cell.back(0), 12);
        Cells.due("back(13)", cell.back(13), -1);
        Cells.due("back(most)", cell.back(Integer.MAX_VALUE), -1);
        Cells.due("back(-5)", cell.back(-5), -1);
        Cells.due("back(1)", cell.back(1), 11);
        Cells.tape(cell, "5\nPRINT 3");
        Cells.due("back(2)", cell.back(2), 18);
        Cells.tape(cell, "T 4");
        Cells.due("read()", cell.read(), 2 + 16 * 3);
        Cells.tape(cell, "O 3\nPRINT 12");
        cell.back(1);
        Cells.tape(cell, "5");
        Cells.due("read()", cell.read(), 0);
        cell.run(3, 5);
        Cells.dueReal("real(4, 0)", cell.real(4, 0), 15);
        Cells.due("back(0) behind read()", cell.back(0), 0);
        Cells.tape(cell, "O 1");
        Cells.due("back(3)", cell.back(3), 0);
        Cells.due("back(1)", cell.back(1), -1);
        Cells.end();
    }
}
