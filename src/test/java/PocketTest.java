/** Promise 13: what is in a pocket, and what the spindle holds. */
public final class PocketTest {
    private static void pocket(MillCell cell, int r, int p, int... want) {
        for (int what = 0; what < want.length; what++) {
            Cells.due("pocket(" + r + ", " + p + ", " + what + ")", cell.pocket(r, p, what), want[what]);
        }
    }

    public static void main(String[] args) {
        MillCell cell = Cells.of("O 1", "RACK 2,3,4", "LOAD 2,0,3", "LOAD 2,3,4", "O 2", "TAKE 2,3", "S 1 M 3", "G 81 Z 5", "G 1 F 60 X 10",
            "X 0.1", "O 3", "BACK 2,1", "O 4", "RACK 3,0,0");
        pocket(cell, 2, 0, -1, -1, -1, -1, -1, -1);
        pocket(cell, -1, 0, -1, 0, 0, 0, -1, -1);
        Cells.due("run(1, 9)", cell.run(1, 9), 0);
        pocket(cell, 2, 0, 3, 1, 0, 0, 4, 3, -1);
        pocket(cell, 2, 1, -1, 0, 0, 0, 4, 3, -1);
        pocket(cell, 2, 3, 4, 2, 0, 0, 4, 3, -1);
        pocket(cell, 2, 4, -1, -1, -1, -1, 4, 3, -1);
        pocket(cell, 2, -1, -1, -1, -1, -1, 4, 3, -1);
        pocket(cell, 2, Integer.MAX_VALUE, -1, -1, -1, -1, 4, 3, -1);
        pocket(cell, 2, Integer.MIN_VALUE, -1, -1, -1, -1, 4, 3, -1);
        int[] racks = {0, 1, 3, 4, -2, Integer.MAX_VALUE, Integer.MIN_VALUE};
        for (int r : racks) {
            pocket(cell, r, 0, -1, -1, -1, -1, -1, -1, -1);
        }
        Cells.due("pocket(2, 0, -1)", cell.pocket(2, 0, -1), -1);
        Cells.due("pocket(-1, 0, -1)", cell.pocket(-1, 0, -1), -1);
        Cells.due("run(2, 9)", cell.run(2, 9), 0);
        float wear = 0f + 10f * 0.001953125f;
        wear = wear + (float) (10 - 0.1) * 0.001953125f;
        int bits = Float.floatToIntBits(wear);
        pocket(cell, 2, 3, -1, 0, 0, 0, 4, 3);
        pocket(cell, -1, 77, 4, 2, 1, bits, -1, -1, -1);
        Cells.due("run(3, 9)", cell.run(3, 9), 0);
        pocket(cell, -1, 77, -1, 0, 0, 0, -1, -1);
        pocket(cell, 2, 1, 4, 2, 1, bits, 4, 3);
        Cells.due("run(4, 9)", cell.run(4, 9), 0);
        pocket(cell, 3, 0, -1, -1, -1, -1, 0, 0);
        withoutProgram();
        usesWrap();
        Cells.end();
    }

    /** The spindle too is none such without a program; with one that has done nothing it is empty. */
    private static void withoutProgram() {
        MillCell cell = new MillCell();
        pocket(cell, -1, 0, -1, -1, -1, -1, -1, -1, -1);
        pocket(cell, 0, 0, -1, -1, -1, -1, -1, -1, -1);
        Cells.tape(cell, "O 1\nRACK 0,0,1\nLOAD 0,0,1\nTAKE 0,0");
        pocket(cell, -1, 0, -1, -1, -1, -1, -1, -1, -1);
        Cells.due("read()", cell.read(), 0);
        pocket(cell, -1, 0, -1, 0, 0, 0, -1, -1, -1);
        Cells.due("run(1, 9)", cell.run(1, 9), 0);
        pocket(cell, -1, 0, 1, 1, 0, 0, -1, -1, -1);
        pocket(cell, 0, 0, -1, 0, 0, 0, 1, 0, -1);
        Cells.due("read() of nothing", cell.read(), 2 + 16);
        pocket(cell, -1, 0, -1, -1, -1, -1, -1, -1, -1);
        pocket(cell, 0, 0, -1, -1, -1, -1, -1, -1, -1);
        Cells.tape(cell, "O 1\nPRINT 1");
        Cells.due("read()", cell.read(), 0);
        pocket(cell, -1, 0, -1, 0, 0, 0, -1, -1, -1);
    }

    private static void usesWrap() {
        MillCell cell = Cells.of("O 1", "RACK 0,4,1", "LOAD 0,0,4", "TAKE 0,0", "M 3", "O 2", "WHILE 1", "G 84 Z 0", "END");
        cell.run(1, 9);
        for (int n = 0; n < 6; n++) {
            cell.run(2, 10000);
        }
        Cells.due("count(10)", cell.count(10), 30000);
        cell.run(2, 2 * 2767);
        Cells.due("count(10)", cell.count(10), 32767);
        cell.run(2, 2);
        Cells.due("count(10)", cell.count(10), -32768);
        Cells.due("pocket(-1, 0, 2)", cell.pocket(-1, 0, 2), -32768);
        Cells.due("told(5): no way, no SEGMENT", cell.told(5), 0);
    }
}
