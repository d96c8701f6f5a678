/** Part 4 of the terms: IF, WHILE, CALL, RETURN, TRY, ON, LAST, GUARD. */
public final class FlowTest {
    private static final double V = Double.NaN;

    private static void is(String text, double... want) {
        Cells.prints(Cells.of(text.split("; ?")), want);
    }

    /** The alarm that goes out, its line, and OUT. */
    private static void out(String text, int alarm, int line, double... want) {
        MillCell cell = Cells.of(text.split("; ?"));
        Cells.prints(cell, want);
        Cells.due("told(0) of " + text, cell.told(0), alarm);
        Cells.due("told(1) of " + text, cell.told(1), line);
    }

    public static void main(String[] args) {
        branches();
        calls();
        tries();
        lasts();
        guards();
        Cells.end();
    }

    private static void branches() {
        is("O 1;IF 1;PRINT 1;ELSE;PRINT 2;END;PRINT 3", 1, 3);
        is("O 1;IF 0;PRINT 1;ELSE;PRINT 2;END;PRINT 3", 2, 3);
        is("O 1;IF -0;PRINT 1;END;PRINT 3", 3);
        is("O 1;IF VACANT;PRINT 1;ELSE;PRINT 2;END", 2);
        is("O 1;IF 0.1;PRINT 1;END", 1);
        is("O 1;IF -1/0;PRINT 1;END", 1);
        is("O 1;IF 1;IF 0;PRINT 1;ELSE;PRINT 2;END;ELSE;PRINT 3;END", 2);
        is("O 1;WHILE #1 EQ 5;PRINT 1;END;PRINT 2", 2);
        is("O 1;#1=3;WHILE #1;PRINT #1;#1=#1-1;END;PRINT 9", 3, 2, 1, 9);
        is("O 1;#1=3;WHILE #1;PRINT #1;IF #1 EQ 2;#1=VACANT;ELSE;#1=#1-1;END;END", 3, 2);
        out("O 1;#1=2;WHILE DIV[6,#1];#1=#1-1;PRINT #1;END", 6, 3, 1, 0);
    }

    private static void calls() {
        is("O 1;CALL 2 A 5;PRINT 3;O 2;PRINT #1;RETURN;PRINT 9;O 3;PRINT 8", 5, 3);
        is("O 1;PRINT 1;RETURN;PRINT 2", 1);
        is("O 1;WHILE 1;IF 1;CALL 2;RETURN;END;END;O 2;IF 1;WHILE 1;RETURN;END;END", new double[0]);
        is("O 2;PRINT 2;O 1;CALL 2;CALL 2", 2, 2);
        out("O 1;CALL 9 A DIV[1,0]", 6, 2);
        out("O 1;CALL 9 A 1", 9, 2);
        out("O 1;CALL 2;O 2;;PRINT 1;ALARM 3", 10, 6, 1);
        // Each CALL has PARAMETERS of its own.
        is("O 1;#100=0;CALL 2 N 4;PRINT #100;O 2;#1=#14;IF #14 GT 0;CALL 2 N [#14-1];END;#100=#100*10+#1", 1234);
    }

    private static void tries() {
        is("O 1;TRY;PRINT 1;PRINT #0;PRINT 2;ON PLACE;PRINT WHY;ON ANY;PRINT 9;END;PRINT 3", 1, 2, 3);
        is("O 1;TRY;PRINT #0;ON ZERO;PRINT 9;ON ANY;PRINT 1;ON PLACE;PRINT 9;END", 1);
        is("O 1;TRY;PRINT 1;ON ANY;PRINT 9;END;PRINT 2", 1, 2);
        is("O 1;TRY;END;TRY;ON ANY;END;TRY;LAST;END;PRINT 2", 2);
        out("O 1;TRY;PRINT #0;ON ZERO;PRINT 9;END;PRINT 9", 2, 3);
        out("O 1;TRY;ALARM 4;END", 10, 3);
        is("O 1;TRY;CALL 2;ON RAISED;PRINT WHAT;PRINT WHY;END;O 2;CALL 3;PRINT 9;O 3;ALARM 4.5", 4.5, 10);
        // WHY and WHAT stay, and are of the latest one taken.
        is("O 1;TRY;ALARM 4;ON ANY;END;PRINT WHAT;TRY;PRINT #0;ON ANY;END;PRINT WHAT;PRINT WHY;TRY;ALARM VACANT;ON ANY;END;PRINT WHAT;"
            + "PRINT WHY", 4, V, 2, V, 10);
        // An alarm in an ON is not for the same TRY.
        is("O 1;TRY;TRY;ALARM 1;ON RAISED;PRINT DIV[1,0];ON ZERO;PRINT 9;END;ON ZERO;PRINT 5;END", 5);
        out("O 1;TRY;ALARM 1;ON ANY;ALARM WHAT+1;END", 10, 5);
        String[] lines = {"PRINT FEED", "PRINT #0", "FIT 0,-1", "G 81", "", "PRINT DIV[1,0]", "X VACANT", "X 2000", "G 3", "ALARM 0"};
        String[] kinds = {"NONE", "PLACE", "SIZE", "KIND", "STORE", "ZERO", "VACANT", "LIMIT", "LACK", "RAISED"};
        for (int a = 1; a <= 10; a++) {
            if (a != 5) {
                String take = a == 4 ? "RACK 0,0,1;LOAD 0,0,0;TAKE 0,0;" : "";
                String other = kinds[a % 10];
                is("O 1;" + take + "TRY;" + lines[a - 1] + ";ON " + other + ";PRINT 99;ON " + kinds[a - 1] + ";PRINT WHY;END", a);
            }
        }
        is("O 1;RACK 0,1,1;TRY;LOAD 0,0,0;ON ZERO;PRINT 99;ON STORE;PRINT WHY;END", 5);
    }

    private static void lasts() {
        is("O 1;TRY;PRINT 1;LAST;PRINT 2;END;PRINT 3", 1, 2, 3);
        is("O 1;TRY;ALARM 1;ON ANY;PRINT 1;LAST;PRINT 2;END;PRINT 3", 1, 2, 3);
        out("O 1;TRY;ALARM 7;LAST;PRINT 2;END;PRINT 3", 10, 3, 2);
        out("O 1;TRY;ALARM 7;ON ANY;PRINT DIV[1,0];LAST;PRINT 2;END;PRINT 3", 6, 5, 2);
        is("O 1;CALL 2;PRINT 3;O 2;TRY;RETURN;LAST;PRINT 2;END;PRINT 9", 2, 3);
        is("O 1;TRY;ALARM 1;ON ANY;RETURN;LAST;PRINT 2;END;PRINT 9", 2);
        // What LAST meets counts instead.
        out("O 1;TRY;ALARM 7;LAST;PRINT DIV[1,0];END;PRINT 3", 6, 5);
        is("O 1;CALL 2;PRINT 3;O 2;TRY;ALARM 7;LAST;RETURN;END;PRINT 9", 3);
        is("O 1;TRY;CALL 2;ON RAISED;PRINT WHAT;END;O 2;TRY;RETURN;LAST;ALARM 8;END", 8);
        is("O 1;WHILE 1;TRY;ALARM 1;LAST;PRINT 1;RETURN;END;END", 1);
        // What LAST takes within itself leaves what it holds up.
        MillCell cell = Cells.of("O 1", "TRY", "ALARM 7", "LAST", "TRY", "ALARM 8", "ON ANY", "PRINT WHAT", "LAST", "CALL 2", "END",
            "PRINT WHAT",
            "END", "O 2", "TRY", "PRINT #0", "ON ANY", "RETURN", "END");
        Cells.prints(cell, 8, V);
        Cells.due("told(0)", cell.told(0), 10);
        Cells.due("told(1)", cell.told(1), 3);
        Cells.due("told(3)", cell.told(3), 3);
        Cells.dueReal("real(5, 0)", cell.real(5, 0), 7);
        // From the innermost out.
        out("O 1;TRY;TRY;TRY;ALARM 1;LAST;PRINT 1;END;LAST;PRINT 2;END;LAST;PRINT 3;END", 10, 5, 1, 2, 3);
        is("O 1;TRY;TRY;ALARM 1;LAST;PRINT 1;END;ON ANY;PRINT 2;LAST;PRINT 3;END", 1, 2, 3);
        is("O 1;CALL 2;O 2;TRY;TRY;RETURN;LAST;PRINT 1;END;ON ANY;PRINT 9;LAST;PRINT 2;END;PRINT 9", 1, 2);
    }

    private static void modes(MillCell cell, int motion, int absolute, int offset, int spindle, int coolant, double f, double s) {
        Cells.due("count(3)", cell.count(3), motion);
        Cells.due("count(4)", cell.count(4), absolute);
        Cells.due("count(5)", cell.count(5), offset);
        Cells.due("count(6)", cell.count(6), spindle);
        Cells.due("count(7)", cell.count(7), coolant);
        Cells.dueReal("real(3, 0)", cell.real(3, 0), f);
        Cells.dueReal("real(3, 1)", cell.real(3, 1), s);
    }

    private static void guards() {
        String change = "G 1 M 3 F 5 S 6;G 91 M 8;G 57;X 3;";
        MillCell cell = Cells.of(("O 1;GUARD;" + change + "END;O 2;GUARD;" + change + "ALARM 1;END;O 3;GUARD;" + change
            + "RETURN;END;O 4;GUARD;"
            + change + "GUARD;G 0;G 90;F 9;END;PRINT POS[0];WHILE 1;END;END;O 5;F 7;G 55;GUARD;" + change + "CALL 2;END;O 6;TRY;CALL 5;"
            + "ON ANY;S 8;END;O 7;GUARD;TRY;" + change + "ALARM 1;LAST;F 77;END;END").split(";"));
        Cells.due("run(1, 99)", cell.run(1, 99), 0);
        modes(cell, 0, 1, 0, 0, 0, 0, 0);
        Cells.dueReal("positions are no MODES", cell.real(1, 0), 3);
        Cells.due("run(2, 99)", cell.run(2, 99), 1);
        modes(cell, 0, 1, 0, 0, 0, 0, 0);
        Cells.due("run(3, 99)", cell.run(3, 99), 0);
        modes(cell, 0, 1, 0, 0, 0, 0, 0);
        Cells.due("run(7, 99)", cell.run(7, 99), 1);
        modes(cell, 0, 1, 0, 0, 0, 0, 0);
        Cells.due("run(6, 99)", cell.run(6, 99), 0);
        modes(cell, 0, 1, 1, 0, 0, 7, 8);
        Cells.due("run(4, 99)", cell.run(4, 99), 2);
        modes(cell, 1, 0, 3, 1, 1, 5, 6);
        // Kept between runs.
        Cells.due("run(4, 0)", cell.run(4, 0), 2);
        modes(cell, 1, 0, 3, 1, 1, 5, 6);
    }
}
