/** Part 4 of the terms, sentence by sentence: each edge that it names, and one beyond on either side. */
public final class RunEdgesTest {
    private static final double V = Double.NaN;
    private static final double INF = Double.POSITIVE_INFINITY;
    private static final int ENDED = 0;
    private static final int ALARM = 1;
    private static final int STEPS = 2;
    private static final int DEEP = 3;
    private static final int WORN = 4;
    private static final int FULL = 5;

    private static MillCell of(String text) {
        return Cells.of(text.split("; ?", -1));
    }

    private static void prints(String text, double... want) {
        Cells.prints(of(text), want);
    }

    private static void run(MillCell cell, int o, int steps, int want) {
        Cells.due("run(" + o + ", " + steps + ")", cell.run(o, steps), want);
    }

    private static void told(MillCell cell, int what, int want) {
        Cells.due("told(" + what + ")", cell.told(what), want);
    }

    public static void main(String[] args) {
        stepOfEachLine();
        noStep();
        whileSteps();
        conditions();
        lacking();
        returns();
        outKept();
        firstOn();
        tryHasEnded();
        onIsLeft();
        lastIsDone();
        lastCounts();
        lastHoldsUp();
        guardIsLeft();
        modesAtFirst();
        keptBetweenRuns();
        endBySteps();
        endByDeep();
        deepest();
        endByWorn();
        endByFull();
        fullBehindAlarms();
        toolsAtMost();
        nothingIsDone();
        sinceTheBeginning();
        Cells.end();
    }

    /** A STEP: each LINE that begins. */
    private static void stepOfEachLine() {
        String[] lines = {"#1=1", "IF 0;END", "WHILE 0;END", "TRY;END", "GUARD;END", "CALL 2", "RETURN", "ALARM 1", "PRINT 1", "FIT 1,1",
            "DROP 1", "FIT 1,1;PUT 1,0,0",
            "FIT 1,1;MOVE 1,0,1,0,1", "RACK 0,0,1", "RACK 0,0,1;LOAD 0,0,0", "RACK 0,0,1;LOAD 0,0,0;TAKE 0,0", "F 1", "X 1", "G 4 P 1",
            "PRINT #0", "FIT 9,9"};
        for (String line : lines) {
            MillCell cell = of("O 1;" + line + ";O 2");
            int steps = 0;
            for (String part : line.split(";")) {
                steps += part.equals("END") ? 0 : 1;
            }
            run(cell, 1, steps - 1, STEPS);
            told(cell, 2, steps - 1);
            cell = of("O 1;" + line + ";O 2");
            Cells.due("run of " + line, cell.run(1, steps) == STEPS, false);
            told(cell, 2, steps);
        }
    }

    /** But O, ELSE, ON, LAST, END and nothing. */
    private static void noStep() {
        MillCell cell = of("O 1;;(nothing);;O 2");
        run(cell, 1, 0, ENDED);
        told(cell, 2, 0);
        run(cell, 2, 0, ENDED);
        cell = of("O 1;IF 1;;ELSE;PRINT 1;END;;TRY;ON ANY;PRINT 1;LAST;END;GUARD;END");
        run(cell, 1, 3, ENDED);
        told(cell, 2, 3);
        run(cell, 1, 2, STEPS);
        // An alarm's ways through ON, LAST, GUARD and END are none.
        cell = of("O 1;TRY;GUARD;TRY;ALARM 1;LAST;END;END;ON ZERO;ON RAISED;LAST;END");
        run(cell, 1, 4, ENDED);
        told(cell, 2, 4);
    }

    /** Each further time that a WHILE's E is asked. */
    private static void whileSteps() {
        MillCell cell = of("O 1;#1=#100;WHILE #1;#1=#1-1;END");
        for (int n = 0; n <= 3; n++) {
            cell.param(100, Cells.bits(n));
            run(cell, 1, 2 + 2 * n, ENDED);
            told(cell, 2, 2 + 2 * n);
            // The last asking, whose answer is no, is one as well.
            run(cell, 1, 1 + 2 * n, STEPS);
        }
        cell = of("O 1;WHILE 1;END");
        for (int n : new int[] {0, 1, 2, 9999, 10000}) {
            run(cell, 1, n, STEPS);
            told(cell, 2, n);
        }
    }

    /** IF, WHILE: as E is not 0 and not VACANT. */
    private static void conditions() {
        double[] values = {0, -0.0, V, Double.MIN_VALUE, -Double.MIN_VALUE, 1, -1, 0.5, INF, -INF};
        MillCell cell = of("O 1;IF #100;PRINT 1;ELSE;PRINT 2;END;WHILE #100;PRINT 3;#100=0;END;IF #101;PRINT 4;END");
        for (double x : values) {
            cell.param(100, Double.doubleToRawLongBits(x));
            cell.param(101, Double.doubleToRawLongBits(x));
            if (x != 0 && x == x) {
                Cells.prints(cell, 1, 3, 4);
            } else {
                Cells.prints(cell, 2);
            }
        }
        prints("O 1;IF 0;IF 1;PRINT 1;ELSE;PRINT 2;END;ELSE;IF 0;PRINT 3;ELSE;PRINT 4;END;END;PRINT 5", 4, 5);
    }

    /** CALL: the FACTORS from the left, then the PROGRAM (LACK if there is none). */
    private static void lacking() {
        MillCell cell = of("O 0;CALL 99;O 98;CALL 0;O 1;CALL 2 A #0;O 3;TRY;CALL 4;ON LACK;PRINT WHY;END");
        run(cell, 0, 9, ALARM);
        told(cell, 0, 9);
        told(cell, 1, 2);
        told(cell, 4, 1);
        run(cell, 98, 9, ALARM);
        told(cell, 4, 2);
        run(cell, 1, 9, ALARM);
        told(cell, 0, 2);
        run(cell, 3, 9, ENDED);
        Cells.dueReal("WHY", cell.real(4, 0), 9);
        prints("O 1;#1=1;CALL 2 B #1 A [#1+1];O 2;PRINT #1;PRINT #2", 2, 1);
    }

    /** RETURN: the PROGRAM at hand ends; so it does at its last LINE. */
    private static void returns() {
        prints("O 1;CALL 2;PRINT 1;O 2;PRINT 2;RETURN;PRINT 3;O 3;PRINT 4", 2, 1);
        prints("O 1;CALL 2;PRINT 1;O 2;PRINT 2;O 3;PRINT 4", 2, 1);
        prints("O 1;CALL 2;PRINT 1;O 2;WHILE 1;IF 1;GUARD;TRY;RETURN;END;END;END;END", 1);
        prints("O 1;RETURN;PRINT 1");
        prints("O 1");
        // Each PROGRAM goes back to its own place.
        prints("O 1;CALL 2;CALL 2;PRINT 1;O 2;CALL 3;PRINT 2;O 3;PRINT 3", 3, 2, 3, 2, 1);
    }

    /** PRINT a: a comes to OUT (200 are kept; all are counted). */
    private static void outKept() {
        MillCell cell = of("O 1;#1=0;WHILE #1 LT #100;PRINT #1;#1=#1+1;END");
        for (int n : new int[] {0, 1, 199, 200, 201, 3000}) {
            cell.param(100, Cells.bits(n));
            run(cell, 1, 10000, ENDED);
            told(cell, 7, n);
            for (int i : new int[] {-1, 0, 1, 198, 199, 200, 201}) {
                if (i >= 0 && i < n && i < 200) {
                    Cells.dueReal("real(4, " + i + ") of " + n, cell.real(4, i), i);
                } else {
                    Cells.due("real(4, " + i + ") of " + n, cell.real(4, i), Cells.VACANT);
                }
            }
        }
    }

    /** TRY: an ALARM in its LINES (in what they CALL, too) is taken by the first ON of its KIND, or of ANY; its LINES are done then. */
    private static void firstOn() {
        prints("O 1;TRY;ALARM 1;PRINT 9;ON RAISED;PRINT 1;ON RAISED;PRINT 2;ON ANY;PRINT 3;END;PRINT 4", 1, 4);
        prints("O 1;TRY;ALARM 1;ON ANY;PRINT 3;ON RAISED;PRINT 1;END", 3);
        prints("O 1;TRY;ALARM 1;ON ZERO;PRINT 1;ON LACK;PRINT 2;ON RAISED;PRINT 3;END", 3);
        prints("O 1;TRY;CALL 2;PRINT 9;ON RAISED;PRINT #1;END;O 2;#1=5;CALL 3;PRINT 9;O 3;#1=6;ALARM 1", V);
        String[] kinds = {"NONE", "PLACE", "SIZE", "KIND", "STORE", "ZERO", "VACANT", "LIMIT", "LACK", "RAISED"};
        String[] lines = {"PRINT FEED", "PRINT #0", "FIT 0,-1", "G 81", "LOAD 0,0,0", "PRINT DIV[1,0]", "X VACANT", "F -1", "G 3",
            "ALARM 0"};
        for (int a = 0; a < 10; a++) {
            String made = a == 3 ? "RACK 0,0,1;LOAD 0,0,0;TAKE 0,0;" : "RACK 0,1,1;";
            for (int k = 0; k < 10; k++) {
                MillCell cell = of("O 1;" + made + "TRY;" + lines[a] + ";ON " + kinds[k] + ";PRINT WHY;END");
                run(cell, 1, 99, a == k ? ENDED : ALARM);
                told(cell, 0, a == k ? 0 : a + 1);
                told(cell, 7, a == k ? 1 : 0);
                told(cell, 3, 1);
            }
            prints("O 1;" + made + "TRY;" + lines[a] + ";ON ANY;PRINT WHY;END", a + 1);
        }
        // A TRY without ONs takes none, the next one out does.
        prints("O 1;TRY;TRY;ALARM 1;END;PRINT 9;ON ANY;PRINT 1;END", 1);
        prints("O 1;TRY;TRY;ALARM 1;ON ZERO;PRINT 9;END;ON RAISED;PRINT 1;END", 1);
    }

    /** Behind its END a TRY takes nothing any more, whichever way it was left. */
    private static void tryHasEnded() {
        String[] left = {"TRY;ON ANY;PRINT 9;END", "TRY;ON ANY;PRINT 9;LAST;END", "TRY;LAST;END",
            "TRY;ALARM 1;ON RAISED;ON ANY;PRINT 9;END",
            "TRY;ALARM 1;ON RAISED;ON ANY;PRINT 9;LAST;END", "TRY;END", "TRY;ON ANY;PRINT 9;ON ANY;PRINT 9;END"};
        for (String block : left) {
            MillCell cell = of("O 1;" + block + ";ALARM 7;O 2;TRY;" + block
                + ";ALARM 8;ON RAISED;PRINT WHAT;END;CALL 3;O 3;ALARM 9;O 4;#1=0;WHILE #1 LT 400;"
                + "#1=#1+1;" + block + ";END;ALARM 6;O 5;CALL 6;PRINT 5;O 6;" + block);
            run(cell, 1, 99, ALARM);
            Cells.dueReal("what went out", cell.real(5, 0), 7);
            told(cell, 7, 0);
            run(cell, 2, 99, ALARM);
            told(cell, 7, 1);
            Cells.dueReal("what was taken", cell.real(4, 0), 8);
            Cells.dueReal("what went out", cell.real(5, 0), 9);
            run(cell, 4, 9999, ALARM);
            Cells.dueReal("what went out", cell.real(5, 0), 6);
            run(cell, 5, 99, ENDED);
            told(cell, 7, 1);
        }
        // So with one that a RETURN or an alarm has left.
        MillCell cell = of("O 1;CALL 2;ALARM 3;O 2;TRY;RETURN;ON ANY;PRINT 9;END;O 3;TRY;CALL 4;ON ANY;END;ALARM 4;O 4;TRY;"
            + "ALARM 1;ON ZERO;PRINT 9;END");
        run(cell, 1, 99, ALARM);
        Cells.dueReal("what went out", cell.real(5, 0), 3);
        run(cell, 3, 99, ALARM);
        Cells.dueReal("what went out", cell.real(5, 0), 4);
        told(cell, 7, 0);
    }

    /** An ALARM in an ON's LINES is not taken by an ON of the same TRY. */
    private static void onIsLeft() {
        MillCell cell = of("O 1;TRY;ALARM 1;ON RAISED;ALARM 2;ON ANY;PRINT 9;END");
        run(cell, 1, 99, ALARM);
        Cells.dueReal("what went out", cell.real(5, 0), 2);
        told(cell, 1, 5);
        told(cell, 3, 2);
        told(cell, 7, 0);
        prints("O 1;TRY;TRY;ALARM 1;ON ANY;ALARM 2;END;ON ANY;PRINT WHAT;END", 2);
        prints("O 1;TRY;ALARM 1;ON ANY;TRY;ALARM 2;ON ANY;PRINT WHAT;END;PRINT WHAT;END", 2, 2);
    }

    /** Whatever leaves TRY's or an ON's LINES (their end, an ALARM, RETURN): LAST's LINES are done, then it goes on. */
    private static void lastIsDone() {
        prints("O 1;TRY;PRINT 1;LAST;PRINT 2;END;PRINT 3", 1, 2, 3);
        prints("O 1;TRY;PRINT 1;ON ANY;PRINT 9;LAST;PRINT 2;END;PRINT 3", 1, 2, 3);
        prints("O 1;TRY;ALARM 1;LAST;PRINT 2;END;PRINT 9", 2);
        prints("O 1;TRY;RETURN;LAST;PRINT 2;END;PRINT 9", 2);
        prints("O 1;TRY;ALARM 1;ON ANY;PRINT 1;LAST;PRINT 2;END;PRINT 3", 1, 2, 3);
        prints("O 1;TRY;ALARM 1;ON ANY;ALARM 2;LAST;PRINT 2;END;PRINT 9", 2);
        prints("O 1;TRY;ALARM 1;ON ANY;RETURN;LAST;PRINT 2;END;PRINT 9", 2);
        prints("O 1;CALL 2;PRINT 3;O 2;TRY;RETURN;LAST;PRINT 2;END;PRINT 9", 2, 3);
        // Out of a WHILE each time anew, and from the innermost out.
        prints("O 1;#1=0;WHILE #1 LT 3;TRY;#1=#1+1;ON ANY;LAST;PRINT #1;END;END", 1, 2, 3);
        prints("O 1;TRY;CALL 2;LAST;PRINT 3;END;O 2;TRY;TRY;ALARM 1;LAST;PRINT 1;END;LAST;PRINT 2;END", 1, 2, 3);
        MillCell cell = of("O 1;;TRY;ALARM 5;LAST;PRINT 2;END");
        run(cell, 1, 99, ALARM);
        told(cell, 0, 10);
        told(cell, 1, 4);
        Cells.dueReal("what went out", cell.real(5, 0), 5);
    }

    /** An ALARM or RETURN in them counts instead. */
    private static void lastCounts() {
        String[] tries = {"TRY;", "TRY;ALARM 1;", "TRY;RETURN;", "TRY;ALARM 1;ON ANY;", "TRY;ALARM 1;ON ANY;ALARM 2;",
            "TRY;ALARM 1;ON ANY;RETURN;"};
        for (String t : tries) {
            MillCell cell = of("O 1;" + t + "LAST;ALARM 7;END;PRINT 9");
            run(cell, 1, 99, ALARM);
            Cells.dueReal("what went out", cell.real(5, 0), 7);
            told(cell, 7, 0);
            prints("O 1;CALL 2;PRINT 3;O 2;" + t + "LAST;RETURN;END;PRINT 9", 3);
            prints("O 1;TRY;CALL 2;ON ZERO;PRINT WHY;END;O 2;" + t + "LAST;PRINT DIV[1,0];END", 6);
            // An ALARM in LAST is not for the same TRY's ONs.
            cell = of("O 1;" + (t.contains("ON") ? t : t + "ON ZERO;PRINT 9;") + "LAST;PRINT DIV[1,0];END");
            run(cell, 1, 99, ALARM);
            told(cell, 0, 6);
            told(cell, 7, 0);
        }
    }

    /** What LAST has held up is still the same behind it, though LAST has taken others. */
    private static void lastHoldsUp() {
        String last = "LAST;TRY;PRINT DIV[1,0];ON ANY;END;CALL 9;PRINT 1;END;PRINT 2;";
        String nine = "O 9;TRY;ALARM 6;ON ANY;RETURN;LAST;END";
        MillCell cell = of("O 1;TRY;ALARM 5;" + last + nine);
        run(cell, 1, 99, ALARM);
        told(cell, 0, 10);
        told(cell, 1, 3);
        told(cell, 3, 3);
        told(cell, 7, 1);
        Cells.dueReal("what went out", cell.real(5, 0), 5);
        prints("O 1;CALL 2;PRINT 3;O 2;TRY;RETURN;" + last + nine, 1, 3);
        prints("O 1;TRY;" + last + nine, 1, 2);
        // Three of them, each held up by a LAST of its own.
        cell = of("O 1;TRY;ALARM 1;LAST;TRY;TRY;ALARM 2;LAST;TRY;TRY;PRINT #0;LAST;PRINT 3;END;ON ANY;PRINT WHY;END;END;ON ANY;"
            + "PRINT WHAT;END;END");
        run(cell, 1, 99, ALARM);
        Cells.dueReal("what went out", cell.real(5, 0), 1);
        told(cell, 7, 3);
        Cells.dueReal("WHY", cell.real(4, 1), 2);
        Cells.dueReal("WHAT", cell.real(4, 2), 2);
    }

    private static void modes(MillCell cell, int motion, int absolute, int offset, int spindle, int coolant, double f, double s) {
        int[] want = {motion, absolute, offset, spindle, coolant};
        for (int i = 0; i < 5; i++) {
            Cells.due("count(" + (i + 3) + ")", cell.count(i + 3), want[i]);
        }
        Cells.dueReal("F", cell.real(3, 0), f);
        Cells.dueReal("S", cell.real(3, 1), s);
    }

    private static final String CHANGE = "G 1 M 3 F 5 S 6;G 91 M 8;G 57;";

    /** GUARD: whatever leaves its LINES: the MODES are as they were when it began. */
    private static void guardIsLeft() {
        String[] ways = {"", "RETURN;", "ALARM 1;", "CALL 9;", "WHILE 1;RETURN;END;", "TRY;ALARM 1;LAST;F 8;END;",
            "TRY;RETURN;LAST;S 8;END;"};
        for (String way : ways) {
            MillCell cell = of("O 1;GUARD;" + CHANGE + "X 2;G 92 Y 3;#100=4;" + way + "END");
            int end = cell.run(1, 99);
            Cells.due("run of " + way, end, way.contains("ALARM") || way.contains("CALL") ? ALARM : ENDED);
            modes(cell, 0, 1, 0, 0, 0, 0, 0);
            // Positions, OFFSETS and PARAMETERS are no MODES.
            Cells.dueReal("X", cell.real(1, 0), 2);
            Cells.dueReal("OFFSET 3", cell.real(2, 10), 3);
            Cells.dueReal("#100", cell.real(0, 100), 4);
        }
        // As they were when it began, not as at first; within one another; through CALLS.
        MillCell cell = of("O 1;" + CHANGE + "GUARD;G 0;G 90;G 54;M 5;M 9;F 1 S 2;CALL 2;PRINT POS[0];END;O 2;GUARD;" + CHANGE
            + "RETURN;END");
        run(cell, 1, 99, ENDED);
        modes(cell, 1, 0, 3, 1, 1, 5, 6);
        cell = of("O 1;F 1;GUARD;F 2;GUARD;F 3;END;CALL 2;END;O 2;S 4;G 4 P 1;TRY;GUARD;S 5;ALARM 1;END;ON ANY;END");
        run(cell, 1, 99, ENDED);
        modes(cell, 0, 1, 0, 0, 0, 1, 0);
        // TRY, ON, LAST alone restore none, though a GUARD was open in their place before.
        String[] others = {"TRY;F 2;END", "TRY;ALARM 1;ON ANY;F 2;END", "TRY;LAST;F 2;END", "TRY;ALARM 1;ON ANY;LAST;F 2;END",
            "TRY;F 2;ON ANY;END", "TRY;F 2;LAST;END",
            "TRY;TRY;F 2;ALARM 1;LAST;END;ON ANY;END", "CALL 2;O 2;TRY;F 2;RETURN;LAST;END", "IF 1;F 2;END", "CALL 2;O 2;F 2"};
        for (String block : others) {
            cell = of("O 1;F 1;GUARD;GUARD;GUARD;F 9;END;END;END;" + block);
            run(cell, 1, 99, ENDED);
            Cells.dueReal("F behind " + block, cell.real(3, 0), 2);
        }
        // An ON finds them restored; a LAST within does not.
        cell = of("O 1;F 1;TRY;GUARD;TRY;F 2;ALARM 1;LAST;CALL 2;END;END;ON ANY;CALL 2;END;O 2;G 1 X[POS[0]+1]");
        run(cell, 1, 99, ENDED);
        Cells.dueReal("V in LAST", cell.segment(0, 1), 2);
        Cells.dueReal("V in ON", cell.segment(1, 1), 1);
    }

    /** MODES: motion 0 at first, absolute, OFFSET 0, F 0, S 0, the spindle 0 off, coolant 0; positions 0. */
    private static void modesAtFirst() {
        MillCell cell = of("O 1;" + CHANGE + "X 3 Y 4 Z 5;G 92 X 1 Y 2 Z 3");
        for (int again = 0; again < 2; again++) {
            modes(cell, 0, 1, 0, 0, 0, 0, 0);
            Cells.position(cell, 0, 0, 0);
            for (int i = 0; i < 12; i++) {
                Cells.dueReal("OFFSETS", cell.real(2, i), 0);
            }
            run(cell, 1, 99, ENDED);
            modes(cell, 1, 0, 3, 1, 1, 5, 6);
            // read() makes all as at first.
            Cells.tape(cell, "O 1\nF 2\nG 1 X 3 Y 4 Z 5\nF 5 S 6 M 3\nG 91 M 8\nG 57\nG 92 X 1");
            Cells.due("read()", cell.read(), 0);
        }
    }

    /** They are kept between runs, as positions, OFFSETS, BANKS, RACKS, the spindle's TOOL, common PARAMETERS are. */
    private static void keptBetweenRuns() {
        MillCell cell = of("O 1;F 9;X 3 Y 4 Z 5;" + CHANGE + "G 92 X 1;FIT 4,2;PUT 4,1,6;RACK 1,0,2;LOAD 1,0,1;LOAD 1,1,5;"
            + "TAKE 1,1;#100=8;O 2;O 3;ALARM 1;O 4;X 5000");
        run(cell, 1, 99, ENDED);
        int[] others = {2, 3, 4, 2};
        for (int o : others) {
            cell.run(o, o == 4 ? 0 : 9);
            modes(cell, 1, 0, 3, 1, 1, 5, 6);
            Cells.position(cell, 3, 4, 5);
            Cells.dueReal("OFFSET", cell.real(2, 9), 1);
            Cells.due("cell(4, 1)", cell.cell(4, 1), 6);
            Cells.due("pocket(1, 0, 0)", cell.pocket(1, 0, 0), 1);
            Cells.due("held", cell.count(9), 2);
            Cells.dueReal("#100", cell.real(0, 100), 8);
        }
        Cells.due("what throws changes nothing", Cells.thrown(cell, 5, 1), Cells.ARGUMENT);
        modes(cell, 1, 0, 3, 1, 1, 5, 6);
    }

    /** It ENDS with as many STEPS as may be, when one more would begin (STEPS). */
    private static void endBySteps() {
        MillCell cell = of("O 1;PRINT 1;PRINT 2;O 2;PRINT 1;PRINT 2;;(nothing)");
        for (int o = 1; o <= 2; o++) {
            run(cell, o, 0, STEPS);
            told(cell, 7, 0);
            run(cell, o, 1, STEPS);
            told(cell, 7, 1);
            // With as many as it has, no more would begin.
            run(cell, o, 2, ENDED);
            told(cell, 7, 2);
            run(cell, o, 3, ENDED);
            told(cell, 2, 2);
        }
        // An alarm at the last one that may be still goes its way, up to a LINE that would begin.
        cell = of("O 1;TRY;ALARM 1;ON ANY;PRINT 1;END;O 2;ALARM 1");
        run(cell, 1, 2, STEPS);
        told(cell, 3, 1);
        told(cell, 0, 0);
        run(cell, 1, 3, ENDED);
        run(cell, 2, 1, ALARM);
        // In what is called, too.
        cell = of("O 1;CALL 2;PRINT 1;O 2;#100=1;#100=2");
        run(cell, 1, 2, STEPS);
        Cells.dueReal("#100", cell.real(0, 100), 1);
        told(cell, 4, 2);
        run(cell, 1, 3, STEPS);
        run(cell, 1, 4, ENDED);
    }

    /** As many as 16 within one another, run()'s counted; at what would be the 17th CALL (DEEP). */
    private static void endByDeep() {
        MillCell cell = of("O 1;#1=#100;#100=#100-1;IF #100;CALL 1;END;PRINT #1");
        for (int n : new int[] {1, 2, 15, 16, 17, 18}) {
            cell.param(100, Cells.bits(n));
            run(cell, 1, 9999, n <= 16 ? ENDED : DEEP);
            told(cell, 4, Math.min(n, 16));
            told(cell, 7, n <= 16 ? n : 0);
            told(cell, 0, 0);
            told(cell, 3, 0);
            Cells.dueReal("#1 of run()'s", cell.real(7, 1), n);
        }
        // Side by side they are none within one another, and the most of all is told.
        cell = of("O 1;#1=40;WHILE #1;#1=#1-1;CALL 2;END;CALL 3;O 2;O 3;CALL 2;O 4;CALL 3;CALL 2;CALL 2;O 5;CALL 2");
        run(cell, 1, 9999, ENDED);
        told(cell, 4, 3);
        run(cell, 4, 99, ENDED);
        told(cell, 4, 3);
        run(cell, 5, 99, ENDED);
        told(cell, 4, 2);
        run(cell, 2, 99, ENDED);
        told(cell, 4, 1);
        // The FACTORS are worked out ahead of it, and a PROGRAM that there isn't is LACK there, too.
        cell = of("O 1;#100=#100-1;IF #100;CALL 1;END;TRY;CALL 1 A DIV[1,0];ON ZERO;PRINT 1;END;RETURN;O 2;#100=#100-1;IF #100;"
            + "CALL 2;RETURN;END;CALL 3");
        cell.param(100, Cells.bits(16));
        run(cell, 1, 9999, ENDED);
        told(cell, 7, 16);
        cell.param(100, Cells.bits(16));
        run(cell, 2, 9999, ALARM);
        told(cell, 0, 9);
    }

    /** Sixteen PROGRAMS, each with ten blocks open: each of the 160 counts. */
    private static void deepest() {
        String called = "#101=#101-1;CALL 1 A DIV[1,#101];";
        MillCell cell = of("O 1;" + "TRY;".repeat(10) + called + "LAST;#100=#100+1;END;".repeat(10));
        cell.param(100, 0);
        cell.param(101, Cells.bits(16));
        run(cell, 1, 9999, ALARM);
        told(cell, 0, 6);
        told(cell, 4, 16);
        Cells.dueReal("LASTs done", cell.real(0, 100), 160);
        cell.param(100, 0);
        cell.param(101, Cells.bits(17));
        run(cell, 1, 9999, DEEP);
        Cells.dueReal("LASTs done", cell.real(0, 100), 0);
        cell = of("O 1;" + "GUARD;F[#101];".repeat(10) + called + "END;".repeat(10));
        cell.param(101, Cells.bits(16));
        run(cell, 1, 9999, ALARM);
        told(cell, 4, 16);
        modes(cell, 0, 1, 0, 0, 0, 0, 0);
        cell.param(101, Cells.bits(17));
        run(cell, 1, 9999, DEEP);
        modes(cell, 0, 1, 0, 0, 0, 2, 0);
        // The innermost of all takes it.
        cell = of("O 1;" + "TRY;".repeat(9) + "#101=#101-1;IF #101;CALL 1;ELSE;ALARM 5;END;" + "ON ANY;#100=#100+1;END;".repeat(9));
        cell.param(100, 0);
        cell.param(101, Cells.bits(16));
        run(cell, 1, 9999, ENDED);
        told(cell, 3, 1);
        Cells.dueReal("ONs done", cell.real(0, 100), 1);
    }

    private static final String RAISING = "O 1;#1=#100;WHILE #1;#1=#1-1;TRY;ALARM 1;ON ANY;END;END;";

    /** At what would be the 3,001st ALARM since the beginning (WORN). */
    private static void endByWorn() {
        int[] kinds = {1, 2, 3, 6, 7, 8, 9, 10};
        String[] lines = {"PRINT FEED", "PRINT #0", "FIT 0,-1", "PRINT DIV[1,0]", "X VACANT", "F -1", "G 3", "ALARM 0"};
        for (int k = 0; k < lines.length; k++) {
            MillCell cell = of(RAISING + "O 2;" + lines[k] + ";O 3;GUARD;F 7;TRY;" + lines[k]
                + ";ON ANY;PRINT 1;LAST;PRINT 2;END;END;O 4;PRINT 5");
            for (int n : new int[] {2000, 999}) {
                cell.param(100, Cells.bits(n));
                run(cell, 1, 10000, ENDED);
                told(cell, 3, n);
            }
            Cells.due("count(13)", cell.count(13), 2999);
            run(cell, 2, 9, ALARM);
            told(cell, 0, kinds[k]);
            told(cell, 3, 1);
            Cells.due("count(13)", cell.count(13), 3000);
            // No ON, LAST, GUARD is done for it, and it is no ALARM.
            run(cell, 3, 9, WORN);
            told(cell, 0, 0);
            told(cell, 1, 0);
            told(cell, 2, 4);
            told(cell, 3, 0);
            told(cell, 7, 0);
            Cells.dueReal("F", cell.real(3, 0), 7);
            Cells.due("real(5, 0)", cell.real(5, 0), Cells.VACANT);
            Cells.due("count(13)", cell.count(13), 3000);
            // What meets none is done as ever.
            run(cell, 4, 9, ENDED);
            told(cell, 7, 1);
        }
    }

    /** At a row, RACK by which more than 100,000 cells and pockets would have been made (for each row, RACK one more). */
    private static void endByFull() {
        int[][] makes = {{99999, 0}, {100000, FULL}, {99998, 0}, {0, 0}, {2147483647, FULL}};
        for (int[] m : makes) {
            for (String line : new String[] {"FIT 4,#100", "RACK 3,0,#100"}) {
                MillCell cell = of("O 1;TRY;GUARD;F 7;" + line + ";END;ON ANY;PRINT 1;LAST;PRINT 2;END");
                cell.param(100, Cells.bits(m[0]));
                run(cell, 1, 9, m[1]);
                told(cell, 7, m[1] == FULL ? 0 : 1);
                told(cell, 3, 0);
                Cells.dueReal("F", cell.real(3, 0), m[1] == FULL ? 7 : 0);
                Cells.due("count(11)", cell.count(11), m[1] == FULL ? 0 : m[0] + 1);
                Cells.due("bank(4)", cell.bank(4), m[1] == FULL || !line.startsWith("FIT") ? -1 : m[0]);
                Cells.due("pockets", cell.pocket(3, 0, 4), m[1] == FULL || line.startsWith("FIT") ? -1 : m[0]);
            }
        }
        // Rows of 0 count as one each; what was dropped counts still.
        MillCell cell = of("O 1;FIT 0,99995;DROP 0;O 2;FIT 1,0;O 3;RACK 0,0,0;O 4;FIT 2,1;O 5;RACK 1,0,1");
        run(cell, 1, 9, ENDED);
        run(cell, 2, 9, ENDED);
        run(cell, 3, 9, ENDED);
        run(cell, 4, 9, ENDED);
        Cells.due("count(11)", cell.count(11), 100000);
        for (int o = 1; o <= 5; o++) {
            run(cell, o, 9, FULL);
        }
        Cells.due("count(11)", cell.count(11), 100000);
        Cells.due("bank(2)", cell.bank(2), 1);
        cell = of("O 1;FIT 0,99998;O 2;FIT 1,1;O 3;RACK 1,0,1;O 4;RACK 1,0,0;O 5;FIT 1,0");
        run(cell, 1, 9, ENDED);
        run(cell, 2, 9, FULL);
        run(cell, 3, 9, FULL);
        run(cell, 4, 9, ENDED);
        run(cell, 5, 9, FULL);
        Cells.due("count(11)", cell.count(11), 100000);
    }

    /** FULL, behind all ALARMS. */
    private static void fullBehindAlarms() {
        MillCell cell = of("O 1;FIT 0,99999;O 2;FIT 8,0;O 3;FIT 0,-1;O 4;RACK 4,0,0;O 5;RACK 0,6,0;O 6;RACK 0,0,-1;O 7;"
            + "FIT 0,DIV[1,0];O 8;FIT 0,0");
        run(cell, 1, 9, ENDED);
        int[] alarms = {2, 3, 2, 2, 3, 6};
        for (int o = 2; o <= 7; o++) {
            run(cell, o, 9, ALARM);
            told(cell, 0, alarms[o - 2]);
        }
        run(cell, 8, 9, FULL);
        Cells.due("bank(0)", cell.bank(0), 99999);
        cell = of("O 1;#1=#100;WHILE #1;#1=#1-1;LOAD 0,0,1;END;O 2;RACK 0,1,1;O 3;LOAD 4,0,1;O 4;LOAD 0,0,6;O 5;LOAD 1,0,1;O 6;"
            + "LOAD 0,1,1;O 7;LOAD 0,0,0;O 8;LOAD 0,0,2;O 9;TAKE 0,0;BACK 0,0");
        run(cell, 2, 9, ENDED);
        cell.param(100, Cells.bits(2500));
        run(cell, 1, 10000, ENDED);
        run(cell, 1, 10000, ENDED);
        Cells.due("count(12)", cell.count(12), 5000);
        int[] refused = {2, 2, 1, 2, 5};
        for (int o = 3; o <= 7; o++) {
            run(cell, o, 9, ALARM);
            told(cell, 0, refused[o - 3]);
        }
        run(cell, 8, 9, FULL);
        Cells.due("the old TOOL stays", cell.pocket(0, 0, 1), 5000);
        Cells.due("its sort", cell.pocket(0, 0, 0), 1);
        // TOOLS that are there go to and fro as ever.
        run(cell, 9, 9, ENDED);
    }

    /** Or the 5,001st TOOL, since the beginning. */
    private static void toolsAtMost() {
        MillCell cell = of("O 1;RACK 0,0,1;#1=#100;WHILE #1;#1=#1-1;LOAD 0,0,1;END;O 2;TRY;GUARD;F 7;LOAD 0,0,5;END;ON ANY;"
            + "PRINT 1;LAST;PRINT 2;END");
        for (int n : new int[] {2500, 2499}) {
            cell.param(100, Cells.bits(n));
            run(cell, 1, 10000, ENDED);
        }
        Cells.due("count(12)", cell.count(12), 4999);
        run(cell, 2, 9, ENDED);
        Cells.due("count(12)", cell.count(12), 5000);
        Cells.due("pocket(0, 0, 1)", cell.pocket(0, 0, 1), 5000);
        run(cell, 2, 9, FULL);
        told(cell, 7, 0);
        told(cell, 3, 0);
        Cells.dueReal("F", cell.real(3, 0), 7);
        Cells.due("count(12)", cell.count(12), 5000);
        Cells.due("pocket(0, 0, 0)", cell.pocket(0, 0, 0), 5);
    }

    /** No ON, LAST, GUARD is done for these; what was done before stays. */
    private static void nothingIsDone() {
        String around = "O 1;TRY;GUARD;TRY;X 2;#100=3;#1=4;F 7;%;LAST;PRINT 1;END;END;ON ANY;PRINT 2;LAST;PRINT 3;END;O 2;CALL 2";
        String[] ends = {"WHILE 1;END", "CALL 2", "FIT 0,100000"};
        int[] want = {STEPS, DEEP, FULL};
        for (int i = 0; i < 3; i++) {
            MillCell cell = of(around.replace("%", ends[i]));
            run(cell, 1, 99, want[i]);
            told(cell, 0, 0);
            told(cell, 1, 0);
            told(cell, 3, 0);
            told(cell, 5, 1);
            told(cell, 7, 0);
            Cells.dueReal("F", cell.real(3, 0), 7);
            Cells.dueReal("X", cell.real(1, 0), 2);
            Cells.dueReal("#100", cell.real(0, 100), 3);
            Cells.dueReal("#1", cell.real(7, 1), 4);
            Cells.due("real(5, 0)", cell.real(5, 0), Cells.VACANT);
            Cells.due("THE WHOLE TIME is told", cell.real(6, 0) == Cells.VACANT, false);
            // The next run begins as any other.
            run(cell, 1, 3, STEPS);
            told(cell, 2, 3);
            told(cell, 4, 1);
        }
    }

    /** Since the beginning: read() doesn't begin them anew. */
    private static void sinceTheBeginning() {
        MillCell cell = of(RAISING + "O 2;FIT 0,99989;RACK 0,0,9;O 3;#1=2500;WHILE #1;#1=#1-1;LOAD 0,0,0;END");
        cell.param(100, Cells.bits(1500));
        run(cell, 1, 10000, ENDED);
        run(cell, 1, 10000, ENDED);
        run(cell, 2, 9, ENDED);
        run(cell, 3, 10000, ENDED);
        run(cell, 3, 10000, ENDED);
        for (int again = 0; again < 2; again++) {
            Cells.due("count(11)", cell.count(11), 100000);
            Cells.due("count(12)", cell.count(12), 5000);
            Cells.due("count(13)", cell.count(13), 3000);
            Cells.due("read() of nothing", cell.read(), 18);
            Cells.due("count(11)", cell.count(11), 100000);
            Cells.due("count(12)", cell.count(12), 5000);
            Cells.due("count(13)", cell.count(13), 3000);
            Cells.tape(cell, "O 1\nALARM 1\nO 2\nFIT 0,0\nO 3\nRACK 0,0,0\nO 4\nPRINT 1");
            Cells.due("read()", cell.read(), 0);
            run(cell, 1, 9, WORN);
            run(cell, 2, 9, FULL);
            run(cell, 3, 9, FULL);
            run(cell, 4, 9, ENDED);
        }
    }
}
