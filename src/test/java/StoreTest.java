/** Part 3 of the terms: BANKS, RACKS, TOOLS, and which alarm is ahead. */
public final class StoreTest {
    private static final String[] MADE = {"FIT 4,5", "FIT 5,3", "RACK 0,0,3", "RACK 1,1,2", "RACK 2,3,2", "LOAD 0,0,2", "LOAD 0,1,4",
        "LOAD 0,2,5"};

    /** The alarm of a line behind those of MADE. */
    private static void alarm(int number, String... lines) {
        String[] all = new String[MADE.length + lines.length + 1];
        all[0] = "O 1";
        System.arraycopy(MADE, 0, all, 1, MADE.length);
        System.arraycopy(lines, 0, all, MADE.length + 1, lines.length);
        MillCell cell = Cells.of(all);
        String last = lines[lines.length - 1];
        Cells.due("run of " + last, cell.run(1, 99), number == 0 ? 0 : 1);
        Cells.due("alarm of " + last, cell.told(0), number);
        Cells.due("line of " + last, cell.told(1), number == 0 ? 0 : all.length);
    }

    public static void main(String[] args) {
        banks();
        racks();
        moves();
        changesNothing();
        feed();
        Cells.end();
    }

    private static void banks() {
        alarm(2, "FIT 8,1");
        alarm(2, "FIT -1,-1");
        alarm(3, "FIT 4,-1");
        alarm(0, "FIT 4,-0.9");
        alarm(2, "DROP 8");
        alarm(0, "DROP 0");
        alarm(0, "DROP 4", "DROP 4");
        alarm(1, "DROP 4", "PUT 4,0,1");
        alarm(2, "PUT 8,0,1");
        alarm(1, "PUT 0,-1,1");
        alarm(2, "PUT 4,-1,1");
        alarm(2, "PUT 4,5,1");
        alarm(0, "PUT 4,4.9,1");
        alarm(6, "PUT 8,0,DIV[1,0]");
        alarm(2, "PRINT PORT[4,5]");
        alarm(1, "PRINT PORT[0,5]");
        alarm(2, "PRINT PORT[9,5]");
        alarm(0, "PRINT LEN[4]");
        Cells.prints(Cells.of("O 1", "FIT 4,2", "PUT 4,1,7", "PRINT PORT[4,1]", "FIT 4,3", "PRINT PORT[4,1]", "PRINT LEN[4]", "PUT 4,0,8",
            "PUT 4,2,9", "PRINT PORT[4,0]", "PRINT PORT[4,2]"), 7, 0, 3, 8, 9);
    }

    private static void racks() {
        alarm(2, "RACK 4,0,1");
        alarm(2, "RACK -1,0,1");
        alarm(2, "RACK 0,6,-1");
        alarm(2, "RACK 0,-1,1");
        alarm(3, "RACK 0,0,-1");
        alarm(2, "LOAD 4,0,0");
        alarm(2, "LOAD 3,0,6");
        alarm(1, "LOAD 3,9,0");
        alarm(2, "LOAD 1,2,0");
        alarm(2, "LOAD 1,-1,1");
        int[] sorts = {0, 1, 2, 3, 4, 5};
        for (int k : sorts) {
            alarm(0, "LOAD 0,0," + k);
            alarm(k == 1 || k == 2 ? 0 : 5, "LOAD 1,0," + k);
            alarm(k == 3 || k == 4 ? 0 : 5, "LOAD 2,0," + k);
            alarm(k == 2 ? 0 : 5, "RACK 3,2,1", "LOAD 3,0," + k);
            alarm(k == 4 ? 0 : 5, "RACK 3,4,1", "LOAD 3,0," + k);
            alarm(k == 5 ? 0 : 5, "RACK 3,5,1", "LOAD 3,0," + k);
        }
        alarm(2, "TAKE 4,0");
        alarm(1, "TAKE 3,9");
        alarm(2, "TAKE 0,3");
        alarm(2, "TAKE 0,-1");
        alarm(1, "TAKE 1,0");
        alarm(1, "TAKE 0,0", "TAKE 0,0");
        alarm(2, "BACK 4,0");
        alarm(1, "BACK 3,9");
        alarm(1, "BACK 0,9");
        alarm(1, "TAKE 0,0", "BACK 3,0");
        alarm(2, "TAKE 0,0", "BACK 0,3");
        alarm(5, "TAKE 0,0", "BACK 2,0");
        alarm(0, "TAKE 0,0", "BACK 1,1");
        alarm(0, "TAKE 0,1", "BACK 2,0");
        alarm(1, "TAKE 0,1", "BACK 2,0", "BACK 2,0");
        Cells.prints(Cells.of("O 1", "RACK 0,0,1", "LOAD 0,0,4", "TAKE 0,0", "PRINT HELD[0]", "PRINT HELD[1]", "PRINT HELD[2]",
            "PRINT HELD[3]",
            "PRINT HELD[4]", "PRINT HELD[5]", "LOAD 0,0,2", "TAKE 0,0", "PRINT HELD[1]", "PRINT HELD[2]", "PRINT HELD[3]"),
            1, 0, 0, 1, 1, 0, 1, 1, 0);
        // What was in the pocket is gone, and numbers go on.
        MillCell cell = Cells.of("O 1", "RACK 0,0,2", "LOAD 0,0,4", "LOAD 0,0,1", "LOAD 0,1,5", "TAKE 0,0", "BACK 0,1", "O 2",
            "RACK 0,5,1");
        cell.run(1, 9);
        Cells.due("pocket(0, 0, 0)", cell.pocket(0, 0, 0), -1);
        Cells.due("pocket(0, 1, 0)", cell.pocket(0, 1, 0), 1);
        Cells.due("pocket(0, 1, 1)", cell.pocket(0, 1, 1), 2);
        Cells.due("count(12)", cell.count(12), 3);
        Cells.due("count(11)", cell.count(11), 3);
        cell.run(2, 9);
        Cells.due("pocket(0, 0, 1)", cell.pocket(0, 0, 1), 0);
        Cells.due("count(11)", cell.count(11), 5);
    }

    private static void moves() {
        alarm(2, "MOVE 8,0,4,0,0");
        alarm(2, "MOVE 4,0,8,0,0");
        alarm(2, "MOVE 0,0,8,0,0");
        alarm(1, "MOVE 0,0,4,0,0");
        alarm(1, "MOVE 4,0,0,0,-1");
        alarm(5, "MOVE 4,0,5,0,1");
        alarm(5, "MOVE 4,-1,5,9,-1");
        alarm(2, "MOVE 4,-1,4,0,1");
        alarm(2, "MOVE 4,0,4,-1,1");
        alarm(2, "MOVE 4,0,4,0,-1");
        alarm(2, "MOVE 4,0,4,0,6");
        alarm(2, "MOVE 4,1,4,0,5");
        alarm(2, "MOVE 4,0,4,1,5");
        alarm(2, "MOVE 4,999999999*9,4,0,999999999*9");
        alarm(2, "MOVE 4,6,4,0,0");
        alarm(0, "MOVE 4,5,4,5,0");
        alarm(0, "MOVE 4,0,4,0,5");
        String[] text = {"O 1", "FIT 7,6", "#1=0", "WHILE #1 LT 6", "PUT 7,#1,#1+0.5", "#1=#1+1", "END", "PUT 7,2,VACANT", "MOVE 7,0,7,2,4",
            "O 2", "MOVE 7,2,7,1,4"};
        MillCell cell = Cells.of(text);
        cell.run(1, 99);
        double[] up = {0.5, 1.5, 0.5, 1.5, Double.NaN, 3.5};
        for (int i = 0; i < 6; i++) {
            Cells.dueReal("cell(7, " + i + ")", cell.cell(7, i), up[i]);
        }
        cell.run(2, 99);
        double[] down = {0.5, 0.5, 1.5, Double.NaN, 3.5, 3.5};
        for (int i = 0; i < 6; i++) {
            Cells.dueReal("cell(7, " + i + ")", cell.cell(7, i), down[i]);
        }
    }

    private static void changesNothing() {
        MillCell cell = Cells.of("O 1", "FIT 4,2", "RACK 1,1,1", "LOAD 1,0,1", "RACK 0,0,2", "LOAD 0,0,3", "TAKE 0,0", "O 2", "FIT 4,-1",
            "O 3",
            "LOAD 1,0,3", "O 4", "BACK 1,0", "O 5", "TAKE 0,1", "O 6", "RACK 1,1,-5", "O 7", "MOVE 4,0,4,1,2", "O 8", "PUT 4,2,9");
        cell.run(1, 99);
        for (int o = 2; o <= 8; o++) {
            Cells.due("run(" + o + ", 9)", cell.run(o, 9), 1);
        }
        Cells.due("bank(4)", cell.bank(4), 2);
        Cells.due("cell(4, 1)", cell.cell(4, 1), 0);
        Cells.due("count(8)", cell.count(8), 3);
        Cells.due("count(9)", cell.count(9), 2);
        Cells.due("count(11)", cell.count(11), 8);
        Cells.due("count(12)", cell.count(12), 2);
        Cells.due("pocket(1, 0, 1)", cell.pocket(1, 0, 1), 1);
        Cells.due("pocket(1, 0, 4)", cell.pocket(1, 0, 4), 1);
        Cells.due("count(13)", cell.count(13), 7);
    }

    private static void feed() {
        double[] want = {12.5, 25, 12.5, 50, 150.5, 12.5};
        for (int k = 0; k < 6; k++) {
            Cells.prints(Cells.of("O 1", "RACK 0,0,1", "LOAD 0,0," + k, "TAKE 0,0", "S 100", "PRINT FEED", "S 0", "PRINT FEED"),
                want[k], k == 4 ? 0.5 : 0);
        }
    }
}
