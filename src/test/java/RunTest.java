/** Promise 6: what run answers and throws, and STEPS. */
public final class RunTest {
    public static void main(String[] args) {
        thrown();
        steps();
        deep();
        worn();
        full();
        Cells.end();
    }

    private static void thrown() {
        MillCell cell = new MillCell();
        Cells.due("no program", Cells.thrown(cell, 1, 10), Cells.STATE);
        Cells.due("no program, wrong steps", Cells.thrown(cell, 1, -1), Cells.STATE);
        Cells.tape(cell, "O 1\nPRINT 3\n#100=5\nX 4\nO 99\n\nO 0\nRETURN");
        Cells.due("read()", cell.read(), 0);
        Cells.due("run(1, 10000)", cell.run(1, 10000), 0);
        int[] wrong = {2, -1, 98, 100, 101, 1000, Integer.MAX_VALUE, Integer.MIN_VALUE};
        for (int o : wrong) {
            Cells.due("run(" + o + ", 1)", Cells.thrown(cell, o, 1), Cells.ARGUMENT);
        }
        Cells.due("run(1, -1)", Cells.thrown(cell, 1, -1), Cells.ARGUMENT);
        Cells.due("run(1, 10001)", Cells.thrown(cell, 1, 10001), Cells.ARGUMENT);
        Cells.due("run(2, -1)", Cells.thrown(cell, 2, -1), Cells.ARGUMENT);
        // What throws changes nothing.
        Cells.due("told(2)", cell.told(2), 3);
        Cells.due("told(5)", cell.told(5), 1);
        Cells.dueReal("real(4, 0)", cell.real(4, 0), 3);
        Cells.due("run(99, 0)", cell.run(99, 0), 0);
        Cells.due("told(2)", cell.told(2), 0);
        Cells.due("told(4)", cell.told(4), 1);
        Cells.due("told(7)", cell.told(7), 0);
        Cells.due("run(0, 1)", cell.run(0, 1), 0);
        Cells.due("run(0, 0)", cell.run(0, 0), 2);
    }

    private static void steps() {
        // 1: #1, IF, TRY, PRINT; 2: WHILE, then per round #2 and the next asking; RETURN.
        MillCell cell = Cells.of("O 1", "#2=0", "IF 1", "TRY", "PRINT 1", "ON ANY", "PRINT 9", "LAST", "PRINT 2", "END", "ELSE",
            "PRINT 9", "END", "", "WHILE #2 LT 2", "#2=#2+1", "END", "GUARD", "END", "RETURN", "PRINT 9");
        Cells.due("run(1, 12)", cell.run(1, 12), 0);
        Cells.due("told(2)", cell.told(2), 12);
        for (int most = 0; most < 12; most++) {
            Cells.due("run(1, " + most + ")", cell.run(1, most), 2);
            Cells.due("told(2)", cell.told(2), most);
            Cells.due("told(0)", cell.told(0), 0);
        }
        Cells.due("run(1, 3)", cell.run(1, 3), 2);
        Cells.due("told(7)", cell.told(7), 0);
        MillCell loop = Cells.of("O 1", "WHILE 1", "END", "O 2", "WHILE 1", "PRINT 1", "X[POS[0]+1]", "END");
        Cells.due("run(1, 10000)", loop.run(1, 10000), 2);
        Cells.due("told(2)", loop.told(2), 10000);
        Cells.due("run(2, 10000)", loop.run(2, 10000), 1);
        Cells.due("told(0)", loop.told(0), 8);
        // An alarm's way to its ON is no STEP, and LAST is done though a RETURN or an alarm is under way.
        MillCell way = Cells.of("O 1", "TRY", "CALL 2", "ON RAISED", "PRINT WHAT", "END", "O 2", "TRY", "ALARM 6", "LAST",
            "PRINT 5", "END");
        Cells.due("run(1, 6)", way.run(1, 6), 0);
        Cells.due("told(2)", way.told(2), 6);
        Cells.due("run(1, 4)", way.run(1, 4), 2);
        Cells.due("told(7)", way.told(7), 0);
        Cells.due("told(3)", way.told(3), 1);
    }

    private static void deep() {
        MillCell cell = Cells.of("O 1", "#100=#100+1", "TRY", "IF #100 LT #101", "CALL 1", "END", "ON ANY", "PRINT 1", "LAST",
            "PRINT 2", "END", "O 2", "#100=#100+1", "IF #100 EQ 16", "CALL 50", "END", "CALL 2");
        cell.param(100, Cells.bits(0));
        cell.param(101, Cells.bits(16));
        Cells.due("run(1, 1000) sixteen", cell.run(1, 1000), 0);
        Cells.due("told(4)", cell.told(4), 16);
        Cells.due("told(7)", cell.told(7), 16);
        cell.param(100, Cells.bits(0));
        cell.param(101, Cells.bits(17));
        Cells.due("run(1, 1000) seventeen", cell.run(1, 1000), 3);
        Cells.due("told(4)", cell.told(4), 16);
        Cells.due("told(7): no ON, no LAST", cell.told(7), 0);
        Cells.due("told(3)", cell.told(3), 0);
        Cells.due("told(2)", cell.told(2), 64);
        // LACK is met ahead of DEEP.
        cell.param(100, Cells.bits(0));
        Cells.due("run(2, 1000)", cell.run(2, 1000), 1);
        Cells.due("told(0)", cell.told(0), 9);
        Cells.due("told(1)", cell.told(1), 15);
    }

    private static void worn() {
        String[] text = {"O 1", "WHILE 1", "TRY", "ALARM 1", "ON RAISED", "#100=#100+1", "LAST", "#101=#101+1", "END", "END", "O 2",
            "GUARD", "G 91", "ALARM 1", "END"};
        MillCell cell = Cells.of(text);
        cell.param(100, 0);
        cell.param(101, 0);
        Cells.due("run(1, 9998)", cell.run(1, 9998), 2);
        Cells.due("told(3)", cell.told(3), 2000);
        Cells.due("count(13)", cell.count(13), 2000);
        Cells.due("run(1, 4998)", cell.run(1, 4998), 2);
        Cells.due("told(3)", cell.told(3), 1000);
        Cells.due("count(13)", cell.count(13), 3000);
        Cells.due("run(2, 10)", cell.run(2, 10), 4);
        Cells.due("told(3)", cell.told(3), 0);
        Cells.due("told(0)", cell.told(0), 0);
        Cells.due("told(1)", cell.told(1), 0);
        Cells.due("count(4): no GUARD", cell.count(4), 0);
        Cells.due("count(13)", cell.count(13), 3000);
        Cells.dueReal("real(0, 100)", cell.real(0, 100), 2998);
        Cells.due("run(1, 10000)", cell.run(1, 10000), 4);
        Cells.due("told(2)", cell.told(2), 3);
        Cells.dueReal("real(0, 101)", cell.real(0, 101), 2998);
        Cells.tape(cell, String.join("\n", text));
        Cells.due("read()", cell.read(), 0);
        Cells.due("run(2, 10) behind read()", cell.run(2, 10), 4);
    }

    private static void full() {
        MillCell cell = Cells.of("O 1", "FIT 4,99998", "O 2", "FIT 1,0", "O 3", "TRY", "FIT 1,-1", "ON SIZE", "PRINT 1", "END",
            "TRY", "FIT 1,0", "ON ANY", "PRINT 2", "LAST", "PRINT 3", "END", "O 4", "RACK 0,0,0", "O 5", "FIT 8,0");
        Cells.due("run(1, 1)", cell.run(1, 1), 0);
        Cells.due("count(11)", cell.count(11), 99999);
        Cells.due("run(1, 1)", cell.run(1, 1), 5);
        Cells.due("bank(4) is the old one", cell.bank(4), 99998);
        Cells.due("run(2, 1)", cell.run(2, 1), 0);
        Cells.due("count(11)", cell.count(11), 100000);
        Cells.due("bank(1)", cell.bank(1), 0);
        Cells.due("run(3, 10)", cell.run(3, 10), 5);
        Cells.due("told(7)", cell.told(7), 1);
        Cells.due("told(3)", cell.told(3), 1);
        Cells.due("run(4, 10)", cell.run(4, 10), 5);
        Cells.due("run(5, 10): ALARMS ahead", cell.run(5, 10), 1);
        Cells.due("told(0)", cell.told(0), 2);
        Cells.due("count(11)", cell.count(11), 100000);
        MillCell big = Cells.of("O 1", "FIT 7,99999", "O 2", "FIT 0,999999999*9", "O 3", "RACK 3,5,999999999*9");
        Cells.due("run(2, 1)", big.run(2, 1), 5);
        Cells.due("run(3, 1)", big.run(3, 1), 5);
        Cells.due("count(11)", big.count(11), 0);
        Cells.due("run(1, 1)", big.run(1, 1), 0);
        Cells.due("count(11)", big.count(11), 100000);
        MillCell tools = Cells.of("O 4", "RACK 0,0,1", "WHILE 1", "LOAD 0,0,0", "END", "O 5", "TRY", "LOAD 0,0,6", "ON PLACE",
            "LOAD 0,0,5", "END");
        Cells.due("run(4, 10000)", tools.run(4, 10000), 2);
        Cells.due("count(12)", tools.count(12), 4999);
        Cells.due("run(4, 10000)", tools.run(4, 10000), 5);
        Cells.due("count(12)", tools.count(12), 5000);
        Cells.due("told(2)", tools.told(2), 5);
        Cells.due("pocket(0, 0, 1)", tools.pocket(0, 0, 1), 5000);
        Cells.due("run(5, 10)", tools.run(5, 10), 5);
        Cells.due("told(3)", tools.told(3), 1);
        Cells.due("count(12)", tools.count(12), 5000);
    }
}
