/** Promise 11: how many cells a BANK has. */
public final class BankTest {
    public static void main(String[] args) {
        MillCell cell = Cells.of("O 1", "FIT 0,0", "FIT 3,12.9", "FIT 7.5,1", "O 2", "FIT 3,4", "DROP 0", "DROP 5", "O 3", "FIT 3,-1",
            "O 4", "FIT -0.9,2", "FIT VACANT,VACANT");
        for (int b = 0; b < 8; b++) {
            Cells.due("bank(" + b + ")", cell.bank(b), -1);
        }
        Cells.due("run(1, 9)", cell.run(1, 9), 0);
        int[] want = {0, -1, -1, 12, -1, -1, -1, 1};
        for (int b = 0; b < 8; b++) {
            Cells.due("bank(" + b + ")", cell.bank(b), want[b]);
        }
        int[] none = {-1, 8, Integer.MAX_VALUE, Integer.MIN_VALUE};
        for (int b : none) {
            Cells.due("bank(" + b + ")", cell.bank(b), -1);
        }
        Cells.due("run(2, 9)", cell.run(2, 9), 0);
        Cells.due("bank(3)", cell.bank(3), 4);
        Cells.due("bank(0)", cell.bank(0), -1);
        Cells.due("run(3, 9)", cell.run(3, 9), 1);
        Cells.due("bank(3)", cell.bank(3), 4);
        Cells.due("run(4, 1)", cell.run(4, 1), 2);
        Cells.due("bank(0)", cell.bank(0), 2);
        Cells.due("run(4, 2)", cell.run(4, 2), 0);
        Cells.due("bank(0)", cell.bank(0), 0);
        Cells.due("count(11)", cell.count(11), 16 + 5 + 3 + 3 + 1);
        cell.read();
        Cells.due("bank(3) without a program", cell.bank(3), -1);
        Cells.end();
    }
}
