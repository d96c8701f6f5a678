/** Part 3 of the terms, sentence by sentence: each edge that it names, and one beyond on either side. */
public final class StoreEdgesTest {
    private static final double V = Double.NaN;
    private static final double INF = Double.POSITIVE_INFINITY;
    private static final double BELOW_1 = 0.9999999999999999;
    private static final String[] SORTS = {"TOOL", "MILL", "BALL", "DRILL", "TAP", "PROBE"};
    private static final int TOOLS = 6;

    /** The LINES, parted by ; with #100 .. as told, meet this alarm at the last one; 0: none. */
    private static MillCell met(int alarm, String text, double... params) {
        String[] lines = ("O 1;" + text).split("; ?");
        MillCell cell = Cells.of(lines);
        for (int i = 0; i < params.length; i++) {
            cell.param(100 + i, Double.doubleToRawLongBits(params[i]));
        }
        Cells.due("run of " + text, cell.run(1, 10000), alarm == 0 ? 0 : 1);
        Cells.due("alarm of " + text, cell.told(0), alarm);
        Cells.due("line of " + text, cell.told(1), alarm == 0 ? 0 : lines.length);
        return cell;
    }

    public static void main(String[] args) {
        bankNumbers();
        missingAtFirst();
        newRows();
        sizes();
        drops();
        putCells();
        truths();
        lowestBits();
        intsAndLongs();
        floats();
        doubles();
        ports();
        moves();
        overlaps();
        rackNumbers();
        rackSorts();
        rackSizes();
        sortsAre();
        toolNumbers();
        takes();
        backs();
        uses();
        feeds();
        heldSorts();
        aheadOfOthers();
        esFirst();
        changesNothing();
        Cells.end();
    }

    private static boolean within(double x, int first, int last) {
        return (int) x >= first && (int) x <= last;
    }

    /** BANKS 0 .. 7; numbers are rounded to INTS. */
    private static void bankNumbers() {
        double[] numbers = {-1, -BELOW_1, -0.0, 0, 1, 7, 7.999999999999999, 8, 9, V, INF, -INF, 4294967296.0};
        for (double b : numbers) {
            boolean there = within(b, 0, 7);
            MillCell cell = met(there ? 0 : 2, "FIT #100,2", b);
            Cells.due("bank", there ? cell.bank((int) b) : -1, there ? 2 : -1);
            met(there ? 0 : 2, "DROP #100", b);
            met(there ? 1 : 2, "PUT #100,0,0", b);
            met(there ? 1 : 2, "PRINT PORT[#100,0]", b);
            met(there ? 1 : 2, "PRINT LEN[#100]", b);
            met(there ? 1 : 2, "MOVE #100,0,3,0,0", b);
            met(there ? 1 : 2, "MOVE 3,0,#100,0,0", b);
        }
    }

    /** Missing at first: NONE. */
    private static void missingAtFirst() {
        for (int b = 0; b < 8; b++) {
            met(1, "PUT " + b + ",0,0");
            met(1, "PUT " + b + ",-1,0");
            met(1, "PRINT LEN[" + b + "]");
            met(1, "MOVE " + b + ",0," + b + ",0,0");
            met(0, "DROP " + b);
            met(0, "FIT " + b + ",0;PRINT LEN[" + b + "]");
        }
    }

    /** FIT b , n: BANK b has a new row of n cells, all 0. */
    private static void newRows() {
        for (int b = 0; b < 8; b++) {
            MillCell cell = met(0, "FIT #100,3;PUT #100,0,1;PUT #100,1,1;PUT #100,2,1;FIT #100,3", b);
            for (int i = 0; i < 3; i++) {
                Cells.due("cell", cell.cell(b, i), 0);
            }
            Cells.due("bank", cell.bank(b), 3);
            cell = met(0, "FIT #100,3;FIT #100,1", b);
            Cells.due("bank", cell.bank(b), 1);
            Cells.due("count(11)", cell.count(11), 6);
        }
    }

    /** 3 SIZE: n below 0 (FIT). */
    private static void sizes() {
        double[] numbers = {-1, -BELOW_1, -0.0, 0, BELOW_1, 1, 1.9999999999999998, V, -INF, -2147483649.0};
        for (double n : numbers) {
            boolean fine = (int) n >= 0;
            MillCell cell = met(fine ? 0 : 3, "FIT 4,#100", n);
            Cells.due("bank(4)", cell.bank(4), fine ? (int) n : -1);
            Cells.due("count(11)", cell.count(11), fine ? (int) n + 1 : 0);
        }
        MillCell cell = met(3, "FIT 4,5;FIT 4,-1");
        Cells.due("the old row stays", cell.bank(4), 5);
        met(2, "FIT 8,-1");
    }

    /** DROP b: it is missing then (no ALARM, if it was). */
    private static void drops() {
        MillCell cell = met(0, "FIT 4,5;DROP 4;DROP 4");
        Cells.due("bank(4)", cell.bank(4), -1);
        Cells.due("cell(4, 0)", cell.cell(4, 0), 0);
        met(1, "FIT 4,5;DROP 4;PUT 4,0,1");
        Cells.due("another stays", met(0, "FIT 4,5;FIT 3,2;DROP 4").bank(3), 2);
    }

    /** PUT b , i , a; PLACE: no such cell. */
    private static void putCells() {
        double[] numbers = {-1, -BELOW_1, -0.0, 0, 2, 2.9999999999999996, 3, 4, V, INF, -INF, 4294967296.0};
        for (double i : numbers) {
            boolean there = within(i, 0, 2);
            MillCell cell = met(there ? 0 : 2, "FIT 4,3;PUT 4,#100,9", i);
            for (int k = 0; k < 3; k++) {
                Cells.due("cell(4, " + k + ")", cell.cell(4, k), there && (int) i == k ? 9 : 0);
            }
        }
        met(2, "FIT 4,0;PUT 4,0,1");
        met(2, "FIT 4,0;PUT 4,-1,1");
    }

    private static long put(int b, double x) {
        return met(0, "FIT " + b + ",1;PUT " + b + ",0,#100", x).cell(b, 0);
    }

    /** A truth whether a is not 0 (VACANT: 1). */
    private static void truths() {
        double[] values = {0, -0.0, Double.MIN_VALUE, -Double.MIN_VALUE, 0.5, 1, -1, 2, 256, INF, -INF, V};
        for (double x : values) {
            Cells.due("a truth of " + x, put(0, x), x != 0 ? 1 : 0);
        }
        // What was 1 becomes 0 again.
        Cells.due("a truth", met(0, "FIT 0,1;PUT 0,0,1;PUT 0,0,-0").cell(0, 0), 0);
    }

    /** Bytes, chars, shorts the lowest bits of a rounded to an INT. */
    private static void lowestBits() {
        double[] values = {0, -0.0, 0.9, -0.9, 127, 127.9, 128, -128, -128.9, -129, 255, 256, 257, 32767, 32768, -32768, -32769, 65535,
            65535.9, 65536,
            65537, -1, -1.9, -65536, -65537, 2147483647, 2147483648.0, 1e300, -2147483648.0, -1e300, INF, -INF, V};
        for (double x : values) {
            int whole = (int) x;
            Cells.due("a byte of " + x, put(1, x), (byte) whole);
            Cells.due("a char of " + x, put(2, x), (char) whole);
            Cells.due("a short of " + x, put(3, x), (short) whole);
        }
        Cells.due("a byte", put(1, 128), -128);
        Cells.due("a char", put(2, -1), 65535);
        Cells.due("a short", put(3, 32768), -32768);
        // 2^31 and more are the greatest INT first, so all its lowest bits are set.
        Cells.due("a byte", put(1, 4294967296.0), -1);
    }

    /** Ints, longs: a rounded to such. */
    private static void intsAndLongs() {
        double two63 = 9223372036854775808.0;
        double[] values = {0, -0.0, 0.9, -0.9, 2147483646.9, 2147483647, 2147483647.5, 2147483648.0, -2147483648.0, -2147483648.5,
            -2147483649.0,
            4294967296.0, Math.nextDown(two63), two63, Math.nextUp(two63), -two63, Math.nextUp(-two63), Math.nextDown(-two63), 1e300,
            -1e300, INF, -INF, V};
        for (double x : values) {
            Cells.due("an int of " + x, put(4, x), (int) x);
            Cells.due("a long of " + x, put(5, x), (long) x);
        }
        Cells.due("the greatest int", put(4, 1e10), Integer.MAX_VALUE);
        Cells.due("the least int", put(4, -1e10), Integer.MIN_VALUE);
        Cells.due("the greatest long", put(5, 1e19), Long.MAX_VALUE);
        Cells.due("the least long", put(5, -1e19), Long.MIN_VALUE);
        Cells.due("the one ahead of the greatest", put(5, Math.nextDown(two63)), 9223372036854774784L);
    }

    /** Floats: the nearest; a FLOAT's bits (with their sign). */
    private static void floats() {
        double max = Float.MAX_VALUE;
        double half = max + Math.ulp(Float.MAX_VALUE) / 2;
        double least = Float.MIN_VALUE;
        double normal = Float.MIN_NORMAL;
        double[] values = {0, 1, 0.1, max, Math.nextDown(half), half, 1e300, least, least / 2, Math.nextUp(least / 2), least * 1.5,
            least * 2.5, normal,
            Math.nextDown(normal), normal / 2, normal / 2 + least, normal * 0.75, normal / 4, normal - least, 2 * normal, 1e-38, 6e-39,
            5e-39, 16777217,
            16777219, Double.MIN_VALUE, INF};
        for (double x : values) {
            Cells.due("a FLOAT of " + x, put(6, x), Float.floatToRawIntBits((float) x));
            Cells.due("a FLOAT of " + -x, put(6, -x), Float.floatToRawIntBits((float) -x));
        }
        Cells.due("-0", put(6, -0.0), Integer.MIN_VALUE);
        Cells.due("VACANT", put(6, V), 0);
    }

    /** Doubles: a itself, VACANT and zeros' signs too. */
    private static void doubles() {
        double[] values = {0, -0.0, 0.1, Double.MIN_VALUE, -Double.MIN_VALUE, Double.MIN_NORMAL, Double.MAX_VALUE, -Double.MAX_VALUE, INF,
            -INF, V};
        for (double x : values) {
            Cells.due("a DOUBLE of " + x, put(7, x), Double.doubleToLongBits(x));
        }
    }

    /** PORT tells a cell as a REAL (of longs the nearest; truths 1, 0). */
    private static void ports() {
        double[] values = {0, -0.0, 1, -1, 200, 40000, 70000, -129, 3e9, 1e19, -1e19, 9223372036854774784.0, 0.1, 1e300, INF, V};
        for (double x : values) {
            MillCell cell = Cells.of("O 1", "#1=0", "WHILE #1 LT 8", "FIT #1,1", "PUT #1,0,#100", "PRINT PORT[#1,0]", "#1=#1+1", "END");
            cell.param(100, Double.doubleToRawLongBits(x));
            int whole = (int) x;
            Cells.prints(cell, x != 0 ? 1 : 0, (byte) whole, (char) whole, (short) whole, whole, (double) (long) x,
                x != x ? 0 : (float) x, x);
        }
        // No LONG's, INT's, truth's 0 is -0.
        for (int b = 0; b <= 5; b++) {
            Cells.prints(met(0, "FIT #100,1;PUT #100,0,-0;PRINT 1/PORT[#100,0]", b), INF);
        }
        Cells.prints(met(0, "FIT 6,1;PUT 6,0,-0;PRINT 1/PORT[6,0]"), -INF);
    }

    /** MOVE: STORE ahead of PLACE of its cells: i, j, n below 0 or beyond. */
    private static void moves() {
        double[][] there = {{0, 0, 0}, {0, 0, 5}, {5, 5, 0}, {5, 0, 0}, {0, 5, 0}, {1, 0, 4}, {0, 1, 4}, {4, 4, 1}, {0, 4, 1}, {-BELOW_1,
            0, 5}, {0, 0, 5.9}, {V, V, V}};
        double[][] beyond = {{-1, 0, 0}, {0, -1, 0}, {0, 0, -1}, {0, 0, 6}, {1, 0, 5}, {0, 1, 5}, {6, 0, 0}, {0, 6, 0}, {5, 0, 1}, {0, 5,
            1}, {2, 3, 3},
            {INF, 0, 1}, {0, INF, 1}, {0, 0, INF}, {INF, INF, INF}, {-INF, 0, 0}, {1, 1, INF}, {INF, 0, 0}};
        for (double[] m : there) {
            met(0, "FIT 4,5;MOVE 4,#100,4,#101,#102", m);
            met(5, "FIT 4,5;FIT 5,5;MOVE 4,#100,5,#101,#102", m);
        }
        for (double[] m : beyond) {
            met(2, "FIT 4,5;MOVE 4,#100,4,#101,#102", m);
            met(5, "FIT 4,5;FIT 5,5;MOVE 4,#100,5,#101,#102", m);
            met(1, "FIT 4,5;MOVE 4,#100,5,#101,#102", m);
            met(1, "FIT 5,5;MOVE 4,#100,5,#101,#102", m);
            met(2, "FIT 4,5;MOVE 4,#100,8,#101,#102", m);
            met(2, "MOVE 4,#100,8,#101,#102", m);
            met(2, "MOVE -1,#100,4,#101,#102", m);
        }
        // Rows of no two BANKS are of one sort.
        for (int b = 0; b < 8; b++) {
            for (int c = 0; c < 8; c++) {
                met(b == c ? 0 : 5, "FIT #100,1;FIT #101,1;MOVE #100,0,#101,0,1", b, c);
            }
        }
    }

    /** n cells of b from i on come to c from j on, as if all were taken first. */
    private static void overlaps() {
        int[][] moves = {{0, 1, 5}, {1, 0, 5}, {0, 0, 6}, {0, 3, 3}, {3, 0, 3}, {0, 5, 1}, {5, 0, 1}, {2, 1, 3}, {1, 2, 3}, {0, 2, 4}};
        for (int b = 0; b < 8; b++) {
            for (int[] m : moves) {
                MillCell cell = met(0, "FIT #100,6;#1=0;WHILE #1 LT 6;PUT #100,#1,#1;#1=#1+1;END;MOVE #100,#101,#100,#102,#103", b, m[0],
                    m[1], m[2]);
                for (int k = 0; k < 6; k++) {
                    int from = k >= m[1] && k < m[1] + m[2] ? k - m[1] + m[0] : k;
                    long want = b == 0 ? Math.min(from, 1) : b == 6 ? Float.floatToIntBits(from) : b == 7 ? Double.doubleToLongBits(from) : from;
                    Cells.due("cell(" + b + ", " + k + ")", cell.cell(b, k), want);
                }
            }
        }
    }

    /** RACKS 0 .. 3, missing at first. */
    private static void rackNumbers() {
        double[] numbers = {-1, -BELOW_1, -0.0, 0, 3, 3.9999999999999996, 4, 5, V, INF, -INF, 4294967296.0};
        for (double r : numbers) {
            boolean there = within(r, 0, 3);
            MillCell cell = met(there ? 0 : 2, "RACK #100,0,2", r);
            Cells.due("pockets", there ? cell.pocket((int) r, 0, 4) : 2, 2);
            met(there ? 1 : 2, "LOAD #100,0,0", r);
            met(there ? 1 : 2, "LOAD #100,-1,0", r);
            met(there ? 1 : 2, "TAKE #100,0", r);
            met(there ? 1 : 2, "TAKE #100,-1", r);
            met(there ? 1 : 2, "BACK #100,0", r);
            met(there ? 1 : 2, "BACK #100,-1", r);
        }
    }

    /** Sorts 0 .. 5: PLACE: no such sort, ahead of NONE. */
    private static void rackSorts() {
        double[] numbers = {-1, -BELOW_1, -0.0, 0, 5, 5.999999999999999, 6, 7, V, INF, -INF, 4294967296.0};
        for (double k : numbers) {
            boolean there = within(k, 0, 5);
            MillCell cell = met(there ? 0 : 2, "RACK 1,#100,2", k);
            Cells.due("for what sort", cell.pocket(1, 0, 5), there ? (int) k : -1);
            met(there ? 0 : 2, "RACK 1,0,1;LOAD 1,0,#100", k);
            met(there ? 1 : 2, "LOAD 1,0,#100", k);
            met(2, "RACK 1,0,1;LOAD 1,1,#100", k);
            met(2, "RACK 4,#100,1", k);
            met(there ? 3 : 2, "RACK 1,#100,-1", k);
        }
    }

    /** RACK r , k , n: n new pockets, empty; SIZE: n below 0; pockets 0 .. n - 1. */
    private static void rackSizes() {
        double[] numbers = {-1, -BELOW_1, -0.0, 0, BELOW_1, 1, 1.9999999999999998, V, -INF};
        for (double n : numbers) {
            boolean fine = (int) n >= 0;
            MillCell cell = met(fine ? 0 : 3, "RACK 1,0,#100", n);
            Cells.due("pockets", cell.pocket(1, 0, 4), fine ? (int) n : -1);
            Cells.due("count(11)", cell.count(11), fine ? (int) n + 1 : 0);
        }
        double[] pockets = {-1, -BELOW_1, 0, 1, 1.9999999999999998, 2, V, INF, -INF};
        for (double p : pockets) {
            boolean there = within(p, 0, 1);
            met(there ? 0 : 2, "RACK 1,0,2;LOAD 1,#100,0", p);
            met(there ? 1 : 2, "RACK 1,0,2;TAKE 1,#100", p);
            met(there ? 0 : 2, "RACK 1,0,2;LOAD 1,0,0;TAKE 1,0;BACK 1,#100", p);
        }
        met(2, "RACK 1,0,0;LOAD 1,0,0");
        MillCell cell = met(0, "RACK 1,0,2;LOAD 1,0,0;LOAD 1,1,5;RACK 1,3,2");
        for (int p = 0; p < 2; p++) {
            Cells.due("a new pocket is empty", cell.pocket(1, p, 0), -1);
            Cells.due("a new pocket is empty", cell.pocket(1, p, 1), 0);
        }
        Cells.due("count(11)", cell.count(11), 6);
        Cells.due("count(12)", cell.count(12), 2);
    }

    private static boolean isA(int sort, int k) {
        return k == 0 || sort == k || sort == 2 && k == 1 || sort == 4 && k == 3;
    }

    /** Each is a TOOL; a BALL is a MILL, a TAP a DRILL; 5 STORE: a pocket that takes no such TOOL. */
    private static void sortsAre() {
        for (int sort = 0; sort < TOOLS; sort++) {
            for (int k = 0; k < TOOLS; k++) {
                String what = SORTS[sort] + " as " + SORTS[k];
                MillCell cell = met(isA(sort, k) ? 0 : 5, "RACK 2,#101,1;LOAD 2,0,#100", sort, k);
                Cells.due(what, cell.pocket(2, 0, 0), isA(sort, k) ? sort : -1);
                Cells.due("TOOLS made", cell.count(12), isA(sort, k) ? 1 : 0);
                cell = met(isA(sort, k) ? 0 : 5, "RACK 0,0,1;LOAD 0,0,#100;TAKE 0,0;RACK 2,#101,1;BACK 2,0", sort, k);
                Cells.due(what, cell.pocket(2, 0, 0), isA(sort, k) ? sort : -1);
                Cells.due("held", cell.count(8), isA(sort, k) ? -1 : sort);
                // PLACE of the pocket is ahead of STORE.
                met(2, "RACK 2,#101,1;LOAD 2,1,#100", sort, k);
                met(2, "RACK 0,0,1;LOAD 0,0,#100;TAKE 0,0;RACK 2,#101,1;BACK 2,1", sort, k);
            }
        }
    }

    /** LOAD: a new TOOL (its number: the next from 1 on; what was there is gone). */
    private static void toolNumbers() {
        MillCell cell = met(0, "RACK 0,0,3;LOAD 0,2,1;LOAD 0,0,2;LOAD 0,2,3");
        Cells.due("pocket(0, 2, 1)", cell.pocket(0, 2, 1), 3);
        Cells.due("pocket(0, 2, 0)", cell.pocket(0, 2, 0), 3);
        Cells.due("pocket(0, 0, 1)", cell.pocket(0, 0, 1), 2);
        Cells.due("pocket(0, 1, 1)", cell.pocket(0, 1, 1), 0);
        // What is refused takes no number.
        cell = met(0, "RACK 0,0,1;RACK 1,5,1;LOAD 0,0,0;TRY;LOAD 1,0,0;ON STORE;END;TRY;LOAD 0,1,0;ON PLACE;END;LOAD 1,0,5");
        Cells.due("pocket(1, 0, 1)", cell.pocket(1, 0, 1), 2);
        Cells.due("count(12)", cell.count(12), 2);
    }

    /** TAKE: the spindle holds what is in pocket p, which is empty then (what it held is gone). */
    private static void takes() {
        MillCell cell = met(0, "RACK 0,0,2;LOAD 0,0,3;LOAD 0,1,5;TAKE 0,0;TAKE 0,1");
        Cells.due("held", cell.count(9), 2);
        Cells.due("pocket 0", cell.pocket(0, 0, 1), 0);
        Cells.due("pocket 1", cell.pocket(0, 1, 1), 0);
        cell = met(1, "RACK 0,0,2;LOAD 0,0,3;TAKE 0,0;TAKE 0,0");
        Cells.due("held", cell.count(9), 1);
        met(1, "RACK 0,0,2;LOAD 0,0,3;TAKE 0,1");
        // The TOOL held stays, whatever becomes of its RACK.
        cell = met(0, "RACK 0,0,2;LOAD 0,0,3;TAKE 0,0;RACK 0,5,0");
        Cells.due("held", cell.count(8), 3);
    }

    /** BACK: pocket p has what the spindle holds (what was there is gone), which holds none then. */
    private static void backs() {
        MillCell cell = met(0, "RACK 0,0,2;LOAD 0,0,3;LOAD 0,1,5;TAKE 0,0;BACK 0,1");
        Cells.due("held", cell.count(8), -1);
        Cells.due("held's number", cell.count(9), 0);
        Cells.due("pocket 0", cell.pocket(0, 0, 0), -1);
        Cells.due("pocket 1", cell.pocket(0, 1, 1), 1);
        met(1, "RACK 0,0,2;LOAD 0,0,3;LOAD 0,1,5;TAKE 0,0;BACK 0,1;BACK 0,0");
        met(1, "RACK 0,0,1;BACK 0,0");
        met(1, "RACK 0,0,1;BACK 0,7");
        met(2, "RACK 0,0,1;BACK 4,0");
    }

    /** USES (16 bits with a sign, wrapping) and WEAR, 0 at first. */
    private static void uses() {
        MillCell cell = Cells.of("O 1", "RACK 0,4,1", "LOAD 0,0,4", "TAKE 0,0", "M 3", "O 2", "#1=#100", "WHILE #1", "#1=#1-1",
            "G 84 Z 0", "END");
        cell.run(1, 9);
        Cells.due("USES at first", cell.count(10), 0);
        Cells.due("WEAR at first", cell.pocket(-1, 0, 3), 0);
        int sum = 0;
        int[] more = {1, 3000, 3000, 3000, 3000, 3000, 3000, 3000, 3000, 3000, 3000, 2765, 1, 1, 1, 3000, 3000, 3000, 3000, 3000, 3000,
            3000, 3000,
            3000, 3000, 2766, 1, 1, 1};
        for (int n : more) {
            cell.param(100, Cells.bits(n));
            Cells.due("run(2, 10000)", cell.run(2, 10000), 0);
            sum += n;
            Cells.due("USES of " + sum, cell.count(10), (short) sum);
            Cells.due("pocket's USES of " + sum, cell.pocket(-1, 0, 2), (short) sum);
        }
        Cells.due("past 65,536", sum, 65538);
    }

    /** FEED: what the TOOL held wants at the speed S; NONE if the spindle holds none. */
    private static void feeds() {
        double[] speeds = {0, 1, 0.3, 1000000};
        for (double s : speeds) {
            double[] want = {s * 0.125, s * 0.25, s * 0.25 / 2, s * 0.5, s * 1.5 + 0.5, s * 0.125};
            for (int k = 0; k < TOOLS; k++) {
                Cells.prints(met(0, "RACK 0,0,1;LOAD 0,0,#100;TAKE 0,0;S #101;PRINT FEED", k, s), want[k]);
            }
        }
        met(1, "S 5;PRINT FEED");
        met(1, "RACK 0,0,1;LOAD 0,0,0;TAKE 0,0;BACK 0,0;PRINT FEED");
    }

    /** HELD[k] (1, if the spindle holds a TOOL that is a k, else 0); no NONE with HELD. */
    private static void heldSorts() {
        for (int sort = 0; sort < TOOLS; sort++) {
            for (int k = 0; k < TOOLS; k++) {
                Cells.prints(met(0, "PRINT HELD[#101];RACK 0,0,1;LOAD 0,0,#100;TAKE 0,0;PRINT HELD[#101];BACK 0,0;PRINT HELD[#101]", sort,
                    k),
                    0, isA(sort, k) ? 1 : 0, 0);
            }
        }
        met(2, "PRINT HELD[6]");
        met(2, "PRINT HELD[-1]");
    }

    /** The first in this list; PLACE of a BANK's, RACK's, sort's number is ahead of NONE. */
    private static void aheadOfOthers() {
        // Both numbers of MOVE are ahead of what is missing, and that is ahead of STORE.
        met(2, "MOVE 0,0,8,0,0");
        met(2, "MOVE 8,0,0,0,0");
        met(1, "FIT 0,1;MOVE 0,0,1,0,0");
        met(1, "FIT 1,1;MOVE 0,0,1,0,0");
        // A RACK that is missing, ahead of its pocket and STORE; its number and the sort ahead of it.
        met(1, "LOAD 0,-1,0");
        met(2, "LOAD 0,0,6");
        met(2, "LOAD 4,0,0");
        met(2, "RACK 0,1,1;LOAD 0,1,0");
        met(5, "RACK 0,1,1;LOAD 0,0,0");
        met(1, "RACK 0,0,1;LOAD 0,0,1;TAKE 0,0;BACK 1,9");
        // PLACE ahead of SIZE.
        met(2, "RACK 4,0,-1");
        met(2, "RACK 0,6,-1");
        met(3, "RACK 0,5,-1");
        met(2, "FIT 8,-1");
    }

    /** The Es are worked out first, from the left. */
    private static void esFirst() {
        met(6, "FIT 8,DIV[1,0]");
        met(6, "PUT 8,0,DIV[1,0]");
        met(6, "PUT DIV[1,0],#0,1");
        met(2, "PUT #0,DIV[1,0],1");
        met(6, "MOVE 8,0,8,0,DIV[1,0]");
        met(6, "RACK 9,9,DIV[1,0]");
        met(6, "LOAD 9,9,DIV[1,0]");
        met(6, "TAKE 9,DIV[1,0]");
        met(6, "BACK 9,DIV[1,0]");
        met(6, "DROP DIV[1,0]+8");
        met(6, "PRINT PORT[9,DIV[1,0]]");
        met(6, "#0=DIV[1,0]");
        met(2, "##0=DIV[1,0]");
        met(6, "ALARM DIV[1,0]");
        met(1, "PRINT FEED+DIV[1,0]");
        met(6, "PRINT DIV[1,0]+FEED");
        met(6, "CALL 9 A DIV[1,0]");
    }

    /** What is met changes nothing but what is told to have been done before it. */
    private static void changesNothing() {
        String made = "FIT 4,2;PUT 4,0,5;RACK 0,1,2;LOAD 0,0,1;LOAD 0,1,2;TAKE 0,0;";
        String[] refused = {"FIT 4,-1", "FIT 8,1", "DROP 8", "PUT 4,2,9", "PUT 4,-1,9", "PUT 5,0,9", "MOVE 4,0,4,1,2", "MOVE 4,0,4,0,-1",
            "RACK 0,1,-1",
            "RACK 0,6,1", "LOAD 0,2,1", "LOAD 0,1,3", "LOAD 1,0,1", "TAKE 0,0", "TAKE 0,2", "TAKE 1,0", "BACK 0,2", "BACK 1,0", "#0=1",
            "PRINT #0", "PRINT FEED/DIV[1,0]"};
        for (String line : refused) {
            MillCell cell = Cells.of(("O 1;" + made + line).split(";"));
            Cells.due("run of " + line, cell.run(1, 99), 1);
            Cells.due("told(7)", cell.told(7), 0);
            Cells.due("bank(4)", cell.bank(4), 2);
            Cells.due("cell(4, 0)", cell.cell(4, 0), 5);
            Cells.due("cell(4, 1)", cell.cell(4, 1), 0);
            Cells.due("count(9)", cell.count(9), 1);
            Cells.due("count(11)", cell.count(11), 6);
            Cells.due("count(12)", cell.count(12), 2);
            Cells.due("count(13)", cell.count(13), 1);
            Cells.due("pocket(0, 0, 1)", cell.pocket(0, 0, 1), 0);
            Cells.due("pocket(0, 1, 1)", cell.pocket(0, 1, 1), 2);
            Cells.due("pocket(0, 0, 4)", cell.pocket(0, 0, 4), 2);
            Cells.due("pocket(0, 0, 5)", cell.pocket(0, 0, 5), 1);
            Cells.due("pocket(1, 0, 4)", cell.pocket(1, 0, 4), -1);
        }
    }
}
