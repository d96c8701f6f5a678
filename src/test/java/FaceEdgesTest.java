/** Promises 1 to 13, sentence by sentence: each edge that they name, what is refused, and what throws. */
public final class FaceEdgesTest {
    private static final int LEAST = Integer.MIN_VALUE;
    private static final int MOST = Integer.MAX_VALUE;
    private static final String[] BUSY = {"O 1", "#100=1.5", "#149=-0", "#1=4", "#26=VACANT", "FIT 4,3", "PUT 4,2,-9", "FIT 7,1",
        "PUT 7,0,VACANT", "FIT 0,0", "RACK 2,3,3",
        "RACK 0,0,0", "LOAD 2,1,4", "LOAD 2,0,3", "TAKE 2,1", "G 1 F 100 S 7 M 3 X 5", "G 81 Z -2", "G 4 P 25", "M 8", "G 92 X 1 Y 2 Z 3",
        "G 55", "G 91", "TRY", "ALARM 1",
        "ON ANY", "END", "PRINT 8", "PRINT VACANT", "CALL 99", "O 99", "ALARM 9"};

    private static MillCell busy() {
        MillCell cell = Cells.of(BUSY);
        Cells.due("run(1, 99)", cell.run(1, 99), 1);
        return cell;
    }

    /** What all that only asks answers. */
    private static long[] answers(MillCell cell) {
        long[] all = new long[200];
        int n = 0;
        for (int what = 0; what <= 13; what++) {
            all[n++] = cell.count(what);
            all[n++] = what <= 7 ? cell.told(what) : 0;
        }
        int[][] reals = {{100, 101, 149}, {0, 1, 2}, {0, 1, 2, 3, 4, 5, 11}, {0, 1}, {0, 1, 2}, {0}, {0}, {1, 2, 26}};
        for (int where = 0; where < reals.length; where++) {
            for (int i : reals[where]) {
                all[n++] = cell.real(where, i);
            }
        }
        for (int i = 0; i < 4; i++) {
            for (int what = 0; what <= 6; what++) {
                all[n++] = cell.segment(i, what);
            }
        }
        for (int b = 0; b < 8; b++) {
            all[n++] = cell.bank(b);
            all[n++] = cell.cell(b, 0);
            all[n++] = cell.cell(b, 2);
        }
        for (int r = -1; r < 4; r++) {
            for (int what = 0; what <= 5; what++) {
                all[n++] = cell.pocket(r, 0, what);
                all[n++] = cell.pocket(r, 1, what);
            }
        }
        return all;
    }

    private static void same(String call, long[] before, long[] after) {
        for (int i = 0; i < before.length; i++) {
            Cells.due("answer " + i + " behind " + call, after[i], before[i]);
        }
    }

    public static void main(String[] args) {
        newObject();
        ownMemory();
        fedBytes();
        refusedFeed();
        backed();
        tapeAndProgram();
        readAnew();
        faultsLeaveNothing();
        params();
        runArguments();
        throwsChangeNothing();
        askingChangesNothing();
        tolds();
        counts();
        reals();
        segments();
        banksAndCells();
        pockets();
        Cells.end();
    }

    /** Promise 1: an empty tape, no program; all as at first. */
    private static void newObject() {
        MillCell cell = new MillCell();
        Cells.due("back(0)", cell.back(0), 0);
        Cells.due("back(1)", cell.back(1), -1);
        Cells.due("run", Cells.thrown(cell, 0, 0), Cells.STATE);
        Cells.due("param", cell.param(100, 0), false);
        long[] all = answers(cell);
        // The same as behind a read() of nothing.
        Cells.due("read()", cell.read(), 18);
        same("read() of nothing", all, answers(cell));
    }

    /** All memory is the cell's own. */
    private static void ownMemory() {
        MillCell one = busy();
        long[] before = answers(one);
        MillCell other = Cells.of("O 1", "#100=7", "FIT 4,9", "PUT 4,2,1", "RACK 2,0,1", "LOAD 2,0,0", "TAKE 2,0", "X 8", "G 92 X 9",
            "G 91 M 8 F 3", "PRINT 1", "ALARM 2");
        other.run(1, 99);
        other.read();
        same("another's run", before, answers(one));
        MillCell third = new MillCell();
        Cells.due("another's tape", third.feed(0, 0, 0, 0, 0), 20);
        Cells.due("its own", one.back(0), 0);
    }

    /** Promise 2: twenty bytes, the highest of a first, come behind those on the TAPE: how many it has then. */
    private static void fedBytes() {
        MillCell cell = new MillCell();
        Cells.due("feed", cell.feed(0x4f310a50, 0x52494e54, 0x31323334, 0x35363738, 0x390a5052), 20);
        Cells.due("feed", cell.feed(0x494e5420, 0x20202020, 0x2028ff80, 0x7f00ffff, 0x29203732), 40);
        Cells.due("read()", cell.read(), 0);
        Cells.due("run(1, 9)", cell.run(1, 9), 0);
        Cells.dueReal("the first", cell.real(4, 0), 123456789);
        Cells.dueReal("the second", cell.real(4, 1), 72);
        for (int place = 0; place < 20; place++) {
            // A 10 at each place of twenty blanks ends a LINE there.
            StringBuilder s = new StringBuilder(" ".repeat(20));
            s.setCharAt(place, '\n');
            String text = s.toString();
            Cells.due("feed", cell.feed(Cells.word(text, 0), Cells.word(text, 4), Cells.word(text, 8), Cells.word(text, 12),
                Cells.word(text, 16)), 20);
            Cells.due("back", cell.back(19 - place), place + 1);
            Cells.due("read()", cell.read(), 2 + 32);
        }
    }

    /** NONE, and nothing comes, if it would have more than 5,000. */
    private static void refusedFeed() {
        MillCell cell = new MillCell();
        Cells.tape(cell, " ".repeat(4977) + "O 1\n");
        Cells.due("4,981", cell.back(0), 4981);
        Cells.due("one too many", cell.feed(0x24242424, 0, 0, 0, 0), -1);
        Cells.due("nothing came", cell.back(0), 4981);
        Cells.due("back(1)", cell.back(1), 4980);
        Cells.due("just enough", cell.feed(0x0a505249, 0x4e542035, 0x20202020, 0x20202020, 0x20202037), 5000);
        Cells.due("full", cell.feed(0, 0, 0, 0, 0), -1);
        Cells.due("back(1)", cell.back(1), 4999);
        Cells.due("read()", cell.read(), 0);
        cell.run(1, 9);
        Cells.dueReal("PRINT 5", cell.real(4, 0), 5);
    }

    /** Promise 3: the last n bytes go; NONE, and nothing goes, if n is below 0 or there are not so many. */
    private static void backed() {
        MillCell cell = new MillCell();
        Cells.tape(cell, "O 1\nPRINT 5");
        for (int n : new int[] {-1, LEAST, 12, 13, MOST}) {
            Cells.due("back(" + n + ")", cell.back(n), -1);
        }
        Cells.due("back(0)", cell.back(0), 11);
        Cells.due("back(10)", cell.back(10), 1);
        Cells.due("back(2)", cell.back(2), -1);
        Cells.due("back(1)", cell.back(1), 0);
        Cells.due("back(1)", cell.back(1), -1);
        Cells.due("back(0)", cell.back(0), 0);
        Cells.tape(cell, " ".repeat(5000));
        Cells.due("back(5001)", cell.back(5001), -1);
        Cells.due("back(5000)", cell.back(5000), 0);
    }

    /** The TAPE is no part of the programs: what is fed or goes back changes none of them before the next read(). */
    private static void tapeAndProgram() {
        MillCell cell = busy();
        long[] before = answers(cell);
        Cells.tape(cell, "$".repeat(300));
        cell.back(5);
        same("feed and back", before, answers(cell));
        Cells.due("run(99, 9)", cell.run(99, 9), 1);
        Cells.dueReal("real(5, 0)", cell.real(5, 0), 9);
        Cells.due("read()", cell.read(), 17);
    }

    /** Promise 4: all is as at first (but what was made, ALARMS met, since the beginning). */
    private static void readAnew() {
        MillCell cell = busy();
        int made = cell.count(11);
        Cells.tape(cell, "O 5\nPRINT 1");
        Cells.due("read()", cell.read(), 0);
        MillCell anew = Cells.of("O 5", "PRINT 1");
        long[] want = answers(anew);
        want[22] = made;
        want[24] = 2;
        want[26] = 2;
        same("read()", want, answers(cell));
        Cells.due("made", made, 4 + 2 + 1 + 4 + 1);
        Cells.due("the old PROGRAM is gone", Cells.thrown(cell, 1, 1), Cells.ARGUMENT);
        Cells.due("the new one is there", cell.run(5, 1), 0);
    }

    /** Or a fault of the text, there is no program (and no BANK, RACK, TOOL) then. */
    private static void faultsLeaveNothing() {
        String[] texts = {"", "$", "O 1\nPRINT", "O 1\n" + "-".repeat(21), "O 1\nPRINT " + "-".repeat(21) + "1", "O 1"
            + "\nF 1".repeat(250)};
        int[] faults = {18, 17, 34, 34, 35, 4};
        for (int t = 0; t < texts.length; t++) {
            MillCell cell = busy();
            int made = cell.count(11);
            Cells.tape(cell, texts[t]);
            Cells.due("read()", cell.read(), faults[t]);
            long[] want = answers(new MillCell());
            want[22] = made;
            want[24] = 2;
            want[26] = 2;
            same("a fault", want, answers(cell));
            Cells.due("run(1, 1)", Cells.thrown(cell, 1, 1), Cells.STATE);
            Cells.due("run(-1, -1)", Cells.thrown(cell, -1, -1), Cells.STATE);
            Cells.due("param(100, 0)", cell.param(100, 0), false);
            Cells.due("back(0)", cell.back(0), 0);
        }
        // A param() that was refused has left nothing.
        MillCell cell = busy();
        cell.read();
        Cells.due("param(100, 5)", cell.param(100, 5), false);
        Cells.tape(cell, "O 1");
        cell.read();
        Cells.due("real(0, 100)", cell.real(0, 100), Cells.VACANT);
    }

    /** Promise 5: common PARAMETER k, 100 .. 149: true; false, if there is none such, or no program. */
    private static void params() {
        MillCell cell = Cells.of("O 1");
        for (int k : new int[] {LEAST, -149, -100, -1, 0, 1, 26, 27, 99, 150, 151, MOST}) {
            Cells.due("param(" + k + ")", cell.param(k, Cells.bits(3)), false);
        }
        for (int k = 100; k <= 149; k++) {
            Cells.due("real(0, " + k + ")", cell.real(0, k), Cells.VACANT);
        }
        for (int k = 100; k <= 149; k++) {
            Cells.due("param(" + k + ")", cell.param(k, Cells.bits(k)), true);
        }
        for (int k = 99; k <= 150; k++) {
            Cells.due("real(0, " + k + ")", cell.real(0, k), k >= 100 && k <= 149 ? Cells.bits(k) : Cells.VACANT);
        }
        Cells.due("PARAMETERS of CALLS are others", cell.real(7, 1), Cells.VACANT);
    }

    /** Promise 6: IllegalArgumentException: no such PROGRAM, or steps is not 0 .. 10,000. IllegalStateException: no program (this first). */
    private static void runArguments() {
        MillCell cell = Cells.of("O 0", "O 99", "WHILE 1", "END");
        for (int o : new int[] {LEAST, -100, -1, 1, 98, 100, 101, 256, MOST}) {
            Cells.due("run(" + o + ", 1)", Cells.thrown(cell, o, 1), Cells.ARGUMENT);
            Cells.due("run(" + o + ", -1)", Cells.thrown(cell, o, -1), Cells.ARGUMENT);
        }
        for (int steps : new int[] {LEAST, -10000, -1, 10001, 10002, MOST}) {
            Cells.due("run(0, " + steps + ")", Cells.thrown(cell, 0, steps), Cells.ARGUMENT);
            Cells.due("run(99, " + steps + ")", Cells.thrown(cell, 99, steps), Cells.ARGUMENT);
        }
        for (int steps : new int[] {0, 1, 9999, 10000}) {
            Cells.due("run(0, " + steps + ")", cell.run(0, steps), 0);
            Cells.due("run(99, " + steps + ")", cell.run(99, steps), 2);
            Cells.due("told(2)", cell.told(2), steps);
        }
        for (int o : new int[] {LEAST, -1, 0, 1, 99, 100, MOST}) {
            for (int steps : new int[] {LEAST, -1, 0, 1, 10000, 10001, MOST}) {
                Cells.due("run(" + o + ", " + steps + ")", Cells.thrown(new MillCell(), o, steps), Cells.STATE);
            }
        }
    }

    /** What throws changes nothing. */
    private static void throwsChangeNothing() {
        MillCell cell = busy();
        long[] before = answers(cell);
        Cells.due("run(2, 9)", Cells.thrown(cell, 2, 9), Cells.ARGUMENT);
        Cells.due("run(1, 10001)", Cells.thrown(cell, 1, 10001), Cells.ARGUMENT);
        Cells.due("run(1, -1)", Cells.thrown(cell, 1, -1), Cells.ARGUMENT);
        Cells.tape(cell, "O");
        Cells.due("run(100, 9)", Cells.thrown(cell, 100, 9), Cells.ARGUMENT);
        Cells.due("the tape", cell.back(0), 1);
        same("what throws", before, answers(cell));
        MillCell none = new MillCell();
        Cells.tape(none, "O 1");
        Cells.due("run(1, 9)", Cells.thrown(none, 1, 9), Cells.STATE);
        Cells.due("the tape", none.back(0), 3);
        Cells.due("read()", none.read(), 0);
    }

    /** What is refused, and what only asks, changes nothing. */
    private static void askingChangesNothing() {
        MillCell cell = busy();
        long[] before = answers(cell);
        cell.param(99, 5);
        cell.param(150, 5);
        cell.back(-1);
        cell.back(1);
        for (int x : new int[] {LEAST, -1, 400, MOST}) {
            cell.told(x);
            cell.count(x);
            cell.real(x, x);
            cell.real(4, x);
            cell.segment(x, 0);
            cell.segment(0, x);
            cell.bank(x);
            cell.cell(x, x);
            cell.cell(4, x);
            cell.pocket(x, x, x);
            cell.pocket(2, x, 0);
            cell.pocket(2, 0, x);
        }
        same("asking", before, answers(cell));
    }

    /** Promise 7: NONE for another what; 0 ahead of any. */
    private static void tolds() {
        MillCell cell = new MillCell();
        for (int what : new int[] {LEAST, -1, 0, 1, 7, 8, MOST}) {
            Cells.due("told(" + what + ")", cell.told(what), what >= 0 && what <= 7 ? 0 : -1);
        }
        cell = Cells.of("O 1", "X 1", "", "PRINT #0");
        for (int what = -1; what <= 8; what++) {
            Cells.due("told(" + what + ") ahead of any", cell.told(what), what >= 0 && what <= 7 ? 0 : -1);
        }
        cell.run(1, 9);
        int[] want = {-1, 2, 4, 2, 1, 1, 1, 1, 0, -1};
        for (int what = -1; what <= 8; what++) {
            Cells.due("told(" + what + ")", cell.told(what), want[what + 1]);
        }
        // Of the latest run alone.
        cell.run(1, 0);
        int[] latest = {0, 0, 0, 0, 1, 0, 0, 0};
        for (int what = 0; what <= 7; what++) {
            Cells.due("told(" + what + ")", cell.told(what), latest[what]);
        }
    }

    /** Promise 8: 0 without a program (11 to 13 not so). NONE for another what. */
    private static void counts() {
        MillCell cell = busy();
        int[] want = {121, 31, 2, 1, 0, 1, 1, 1, 4, 1, 1, 12, 2, 2};
        for (int what = -1; what <= 14; what++) {
            Cells.due("count(" + what + ")", cell.count(what), what >= 0 && what <= 13 ? want[what] : -1);
        }
        cell.read();
        for (int what = -1; what <= 14; what++) {
            Cells.due("count(" + what + ") without a program", cell.count(what), what < 0 || what > 13 ? -1 : what >= 11 ? want[what] : 0);
        }
        Cells.due("count(least)", cell.count(LEAST), -1);
        Cells.due("count(most)", cell.count(MOST), -1);
        cell = Cells.of("O 1");
        int[] first = {2, 1, 1, 0, 1, 0, 0, 0, -1, 0, 0, 0, 0, 0};
        for (int what = 0; what <= 13; what++) {
            Cells.due("count(" + what + ") at first", cell.count(what), first[what]);
        }
    }

    /** Promise 9: VACANT's, if there is none such, or no program. */
    private static void reals() {
        MillCell cell = busy();
        int[][] there = {{100, 149}, {0, 2}, {0, 11}, {0, 1}, {0, 1}, {0, 0}, {0, 0}, {1, 26}};
        for (int where = 0; where < 8; where++) {
            for (int i : new int[] {there[where][0] - 1, there[where][1] + 1, LEAST, MOST, -1, -3, 1000}) {
                Cells.due("real(" + where + ", " + i + ")", cell.real(where, i), Cells.VACANT);
            }
        }
        Cells.dueReal("real(0, 100)", cell.real(0, 100), 1.5);
        Cells.dueReal("real(0, 149)", cell.real(0, 149), -0.0);
        Cells.dueReal("real(1, 0)", cell.real(1, 0), 5);
        Cells.dueReal("real(1, 2)", cell.real(1, 2), 0);
        Cells.dueReal("real(2, 0)", cell.real(2, 0), 1);
        Cells.dueReal("real(2, 2)", cell.real(2, 2), 3);
        Cells.dueReal("real(2, 3)", cell.real(2, 3), 0);
        Cells.dueReal("real(2, 11)", cell.real(2, 11), 0);
        Cells.dueReal("real(3, 0)", cell.real(3, 0), 100);
        Cells.dueReal("real(3, 1)", cell.real(3, 1), 7);
        Cells.dueReal("real(4, 0)", cell.real(4, 0), 8);
        Cells.due("real(4, 1)", cell.real(4, 1), Cells.VACANT);
        Cells.dueReal("real(5, 0)", cell.real(5, 0), 9);
        Cells.dueReal("real(7, 1)", cell.real(7, 1), 4);
        Cells.due("real(7, 26)", cell.real(7, 26), Cells.VACANT);
        for (int where : new int[] {LEAST, -1, 8, 9, MOST}) {
            for (int i : new int[] {LEAST, -1, 0, 1, 100, MOST}) {
                Cells.due("real(" + where + ", " + i + ")", cell.real(where, i), Cells.VACANT);
            }
        }
        // An ALARM that wasn't RAISED, or was taken, has no such REAL.
        MillCell other = Cells.of("O 1", "TRY", "ALARM 5", "ON ANY", "END", "O 2", "ALARM 5", "O 3", "PRINT #0", "O 4", "TRY", "ALARM 5",
            "LAST", "PRINT #0", "END");
        long[] want = {Cells.VACANT, Cells.bits(5), Cells.VACANT, Cells.VACANT};
        for (int o = 1; o <= 4; o++) {
            other.run(o, 9);
            Cells.due("real(5, 0) of O " + o, other.real(5, 0), want[o - 1]);
        }
    }

    /** Promise 10: VACANT's, if there is none such. */
    private static void segments() {
        MillCell cell = busy();
        Cells.due("told(6)", cell.told(6), 4);
        for (int i : new int[] {LEAST, -1, 4, 5, 399, 400, 401, MOST}) {
            for (int what = -1; what <= 7; what++) {
                Cells.due("segment(" + i + ", " + what + ")", cell.segment(i, what), Cells.VACANT);
            }
        }
        for (int i = 0; i < 4; i++) {
            for (int what : new int[] {LEAST, -1, 7, 8, MOST}) {
                Cells.due("segment(" + i + ", " + what + ")", cell.segment(i, what), Cells.VACANT);
            }
            for (int what = 0; what <= 6; what++) {
                Cells.due("segment(" + i + ", " + what + ") is VACANT", cell.segment(i, what) == Cells.VACANT, i == 3 && what == 5);
            }
        }
        Cells.dueReal("V of a dwell", cell.segment(3, 1), 0);
    }

    /** Promises 11 and 12: NONE, if it is missing, or there is no such one; 0, if there is none such. */
    private static void banksAndCells() {
        MillCell cell = busy();
        int[] want = {0, -1, -1, -1, 3, -1, -1, 1};
        for (int b = 0; b < 8; b++) {
            Cells.due("bank(" + b + ")", cell.bank(b), want[b]);
        }
        for (int b : new int[] {LEAST, -1, 8, 9, MOST}) {
            Cells.due("bank(" + b + ")", cell.bank(b), -1);
            Cells.due("cell(" + b + ", 2)", cell.cell(b, 2), 0);
        }
        for (int i : new int[] {LEAST, -1, 0, 1, 2, 3, 4, MOST}) {
            Cells.due("cell(4, " + i + ")", cell.cell(4, i), i == 2 ? -9 : 0);
            Cells.due("cell(7, " + i + ")", cell.cell(7, i), i == 0 ? Cells.VACANT : 0);
            Cells.due("cell(0, " + i + ")", cell.cell(0, i), 0);
            Cells.due("cell(1, " + i + ")", cell.cell(1, i), 0);
        }
    }

    /** Promise 13: 0 of an empty one; 0: NONE; whatever p: 4, 5; NONE, if there is none such; RACK NONE: the TOOL held. */
    private static void pockets() {
        MillCell cell = busy();
        int[][] two = {{3, 2, 0, 0}, {-1, 0, 0, 0}, {-1, 0, 0, 0}};
        for (int p : new int[] {LEAST, -1, 0, 1, 2, 3, 4, MOST}) {
            for (int what = -1; what <= 6; what++) {
                boolean there = p >= 0 && p <= 2 && what >= 0 && what <= 3;
                int want = what == 4 || what == 5 ? 3 : there ? two[p][what] : -1;
                Cells.due("pocket(2, " + p + ", " + what + ")", cell.pocket(2, p, what), want);
                Cells.due("pocket(0, " + p + ", " + what + ")", cell.pocket(0, p, what), what == 4 || what == 5 ? 0 : -1);
            }
        }
        int wear = Float.floatToIntBits(5f * 0.001953125f);
        int[] held = {-1, 4, 1, 1, wear, -1, -1, -1};
        for (int p : new int[] {LEAST, -1, 0, MOST}) {
            for (int what = -1; what <= 6; what++) {
                Cells.due("pocket(-1, " + p + ", " + what + ")", cell.pocket(-1, p, what), held[what + 1]);
            }
        }
        for (int r : new int[] {LEAST, -2, 1, 3, 4, 5, MOST}) {
            for (int what : new int[] {LEAST, -1, 0, 1, 2, 3, 4, 5, 6, MOST}) {
                Cells.due("pocket(" + r + ", 0, " + what + ")", cell.pocket(r, 0, what), -1);
            }
        }
        MillCell none = Cells.of("O 1");
        int[] empty = {-1, -1, 0, 0, 0, -1, -1, -1};
        for (int what = -1; what <= 6; what++) {
            Cells.due("pocket(-1, 0, " + what + ") with a program", none.pocket(-1, 0, what), empty[what + 1]);
            Cells.due("pocket(-1, 0, " + what + ") without one", new MillCell().pocket(-1, 0, what), -1);
        }
    }
}
