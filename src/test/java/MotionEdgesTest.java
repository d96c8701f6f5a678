/** Part 5 of the terms, its MOTIONS, sentence by sentence: each edge that it names, and one beyond on either side. */
public final class MotionEdgesTest {
    private static final double V = Double.NaN;
    private static final double INF = Double.POSITIVE_INFINITY;
    private static final double LEAST = Double.MIN_VALUE;
    private static final String DRILL = "RACK 0,0,3;LOAD 0,0,3;LOAD 0,1,4;LOAD 0,2,1;TAKE 0,0;";
    private static final int NONE = 1;
    private static final int KIND = 4;
    private static final int ZERO = 6;
    private static final int VACANT = 7;
    private static final int LIMIT = 8;
    private static final int LACK = 9;

    private static MillCell of(String text, double... params) {
        MillCell cell = Cells.of(("O 1;" + text).split("; ?"));
        for (int i = 0; i < params.length; i++) {
            cell.param(100 + i, Double.doubleToRawLongBits(params[i]));
        }
        return cell;
    }

    /** The LINES, with #100 .. as told, meet this alarm at the last one; 0: none. */
    private static MillCell met(int alarm, String text, double... params) {
        MillCell cell = of(text, params);
        Cells.due("run of " + text, cell.run(1, 10000), alarm == 0 ? 0 : 1);
        Cells.due("alarm of " + text, cell.told(0), alarm);
        Cells.due("line of " + text, cell.told(1), alarm == 0 ? 0 : text.split(";").length + 1);
        return cell;
    }

    private static void modes(MillCell cell, int... want) {
        for (int i = 0; i < 5; i++) {
            Cells.due("count(" + (i + 3) + ")", cell.count(i + 3), want[i]);
        }
    }

    private static void speeds(MillCell cell, double f, double s) {
        Cells.dueReal("F", cell.real(3, 0), f);
        Cells.dueReal("S", cell.real(3, 1), s);
    }

    public static void main(String[] args) {
        factorsFirst();
        gNumbers();
        gRounded();
        mNumbers();
        fAndSLimits();
        fourInOrder();
        aheadOfAllDone();
        doneInOrder();
        notTold();
        dwells();
        offsets();
        drillAlarms();
        drillDone();
        drillSorts();
        travelAlarms();
        targets();
        limits();
        infiniteTargets();
        lengths();
        noLength();
        wears();
        wearNot();
        keptSegments();
        otherLetters();
        Cells.end();
    }

    /** All FACTORS are worked out, from the left (VACANT: when all are). */
    private static void factorsFirst() {
        for (char c : "GMXYZFSP".toCharArray()) {
            met(VACANT, c + " VACANT");
            met(VACANT, c + " #100", V);
            // Ahead of LACK and LIMIT of any LETTER.
            met(VACANT, (c == 'G' ? "M 4 F -1 " : c == 'F' ? "G 3 S -1 " : "G 3 F -1 ") + c + " VACANT");
        }
        met(ZERO, "X VACANT Y DIV[1,0]");
        met(ZERO, "G 3 Y DIV[1,0]");
        met(2, "X #0 Y DIV[1,0]");
        met(ZERO, "X DIV[1,0] Y #0");
        MillCell cell = met(VACANT, "G 1 M 3 F 5 S 6 X VACANT");
        modes(cell, 0, 1, 0, 0, 0);
        speeds(cell, 0, 0);
    }

    /** G: 0, 1 motion; 4 dwell; 54 .. 57 OFFSET 0 .. 3; 81, 84; 90 absolute, 91 not; 92; others LACK. */
    private static void gNumbers() {
        for (int g = -3; g <= 130; g++) {
            boolean known = g == 0 || g == 1 || g == 4 || g >= 54 && g <= 57 || g == 81 || g == 84 || g >= 90 && g <= 92;
            MillCell cell = met(known ? 0 : LACK, "RACK 0,0,1;LOAD 0,0,4;TAKE 0,0;M 3 F 5;G #100 P 1 Z 0", g);
            modes(cell, g == 1 ? 1 : 0, g == 91 ? 0 : 1, g >= 54 && g <= 57 ? g - 54 : 0, 1, 0);
            Cells.due("told(5) of G " + g, cell.told(5), g == 4 ? 1 : 0);
            Cells.due("count(10) of G " + g, cell.count(10), g == 81 || g == 84 ? 1 : 0);
        }
        modes(met(0, "G 1;G 0"), 0, 1, 0, 0, 0);
        modes(met(0, "G 91;G 90"), 0, 1, 0, 0, 0);
        modes(met(0, "G 57;G 54"), 0, 1, 0, 0, 0);
    }

    /** G, rounded to an INT. */
    private static void gRounded() {
        double[] plain = {-0.9999999999999999, -0.0, 0.9999999999999999, 1.9999999999999998, 54.99999999999999, 57.99999999999999,
            91.99999999999999, 92.99999999999999};
        for (double g : plain) {
            met(0, "G #100", g);
        }
        double[] lacking = {-1, 2, 53.99999999999999, 58, 89.99999999999999, 93, INF, -INF, 4294967296.0, -4294967295.0};
        for (double g : lacking) {
            met(LACK, "G #100", g);
        }
        met(LACK, "G 4.9");
        met(NONE, "G 81.9");
    }

    /** M: 3 spindle on, 5 off, 8 coolant on, 9 off; others LACK. */
    private static void mNumbers() {
        for (int m = -2; m <= 12; m++) {
            boolean known = m == 3 || m == 5 || m == 8 || m == 9;
            MillCell cell = met(known ? 0 : LACK, "M #100", m);
            modes(cell, 0, 1, 0, m == 3 ? 1 : 0, m == 8 ? 1 : 0);
            cell = met(known ? 0 : LACK, "M 3;M 8;M #100", m);
            modes(cell, 0, 1, 0, m == 5 ? 0 : 1, m == 9 ? 0 : 1);
        }
        met(LACK, "M #100", INF);
        met(LACK, "M #100", -INF);
    }

    /** F, S: these (not 0 .. 1000000: LIMIT). */
    private static void fAndSLimits() {
        double[] fine = {0, -0.0, LEAST, 1, 999999.9999999999, 1000000};
        double[] beyond = {-LEAST, -1, 1000000.0000000001, 1000001, INF, -INF};
        for (double x : fine) {
            speeds(met(0, "F #100", x), x, 0);
            speeds(met(0, "S #100", x), 0, x);
        }
        for (double x : beyond) {
            speeds(met(LIMIT, "F 5 S 6;F #100", x), 5, 6);
            speeds(met(LIMIT, "F 5 S 6;S #100", x), 5, 6);
        }
    }

    /** LACK, LIMIT of these four, in this order. */
    private static void fourInOrder() {
        met(LACK, "F -1 S -1 M 4 G 3");
        met(LACK, "S -1 F -1 M 4");
        met(LACK, "F -1 G 3");
        met(LIMIT, "G 1 M 3 F -1 S 5");
        met(LIMIT, "G 1 M 3 F 5 S -1");
        // They are ahead of all that a G wants.
        met(LIMIT, "G 4 F -1");
        met(LIMIT, "G 81 S -1");
        met(LACK, "G 84 M 4");
        met(LIMIT, "G 1 X 1 F -1");
        met(LACK, "M 7 X 5000");
    }

    /** Ahead of all that is done. */
    private static void aheadOfAllDone() {
        String[] refused = {"G 1 M 3 F 5 S -1", "G 1 M 3 F -5 S 1", "G 1 M 4 F 5 S 1", "G 2 M 3 F 5 S 1", "G 91 M 8 S -1", "G 55 F -1",
            "G 92 X 5 F -1", "G 4 P 5 S -1",
            "G 54 X 5 M 2"};
        for (String line : refused) {
            MillCell cell = of(line);
            Cells.due("run of " + line, cell.run(1, 9), 1);
            modes(cell, 0, 1, 0, 0, 0);
            speeds(cell, 0, 0);
            Cells.position(cell, 0, 0, 0);
            Cells.dueReal("OFFSET", cell.real(2, 0), 0);
            Cells.due("told(5)", cell.told(5), 0);
        }
    }

    /** They are done in this order, too, and what comes behind finds them done, though it is refused. */
    private static void doneInOrder() {
        String[] refused = {"M 3 F 5 S 6 X 5000", "M 3 F 5 S 6 G 4", "M 3 F 5 S 6 G 4 P -1", "M 3 F 5 S 6 G 81", "M 3 F 5 S 6 G 84 Z 1"};
        for (String line : refused) {
            MillCell cell = of(line);
            Cells.due("run of " + line, cell.run(1, 9), 1);
            modes(cell, 0, 1, 0, 1, 0);
            speeds(cell, 5, 6);
            Cells.due("told(5)", cell.told(5), 0);
        }
        // G 1 and F of a LINE are of its own SEGMENT, G 55 and G 91 of its own TARGET, M 3 of its own WEAR and G 81.
        Cells.dueReal("V", met(0, "X 1 G 1 F 7").segment(0, 1), 7);
        Cells.dueReal("V", met(0, "G 1 F 7;X 1 G 0").segment(0, 1), 6000);
        Cells.position(met(0, "G 55;G 92 X 10;G 54;X 1 G 55"), 11, 0, 0);
        Cells.position(met(0, "X 5;X 5 G 91"), 10, 0, 0);
        Cells.position(met(0, "X 5;G 91;X 5 G 90"), 5, 0, 0);
        Cells.due("USES", met(0, DRILL + "Z 1 S 5 M 3 G 81").count(10), 1);
        Cells.due("WEAR", met(0, DRILL + "G 1 F 5;X 512 M 3").pocket(-1, 0, 3), Float.floatToIntBits(1f));
        Cells.due("no WEAR", met(0, DRILL + "G 1 F 5 M 3;X 512 M 5").pocket(-1, 0, 3), 0);
    }

    /** Of those told: what isn't stays, whatever a CALL, an ALARM or a GUARD had under these LETTERS. */
    private static void notTold() {
        MillCell cell = met(0, "F 5 S 6;CALL 2 F 7 S 8 X 9 Y 9 Z 9 P 9 G 91 M 3;X 1;O 2;M 8;F 4");
        modes(cell, 0, 1, 0, 0, 1);
        speeds(cell, 4, 6);
        Cells.position(cell, 1, 0, 0);
        cell = met(0, "F 5 S 6;GUARD;F 7 S 8 X 3 Y 4;END;Z 1;S 9;F 2");
        speeds(cell, 2, 9);
        Cells.position(cell, 3, 4, 1);
        cell = met(0, "TRY;F 7 S -1 X 3;ON LIMIT;END;M 3;Y 1");
        speeds(cell, 0, 0);
        Cells.position(cell, 0, 1, 0);
        met(LACK, "G 4 P 5;G 4");
        met(LACK, DRILL + "M 3 S 5;Z 5;G 81");
    }

    /** With G 4: P is told, or LACK, and not below 0, or LIMIT: a dwell of P thousandths, a SEGMENT of length 0. */
    private static void dwells() {
        met(LACK, "G 4");
        met(LACK, "G 4 X 1 Y 1 Z 1 F 1 S 1 M 3");
        double[] fine = {0, -0.0, LEAST, 1, 1000, 1e300, Double.MAX_VALUE, INF};
        for (double p : fine) {
            MillCell cell = met(0, "G 4 P #100", p);
            Cells.due("told(5)", cell.told(5), 1);
            Cells.due("told(6)", cell.told(6), 1);
            for (int what = 0; what <= 4; what++) {
                Cells.dueReal("segment(0, " + what + ")", cell.segment(0, what), 0);
            }
            Cells.due("J", cell.segment(0, 5), Cells.VACANT);
            Cells.dueReal("TIME of P " + p, cell.segment(0, 6), p / 1000);
            Cells.dueReal("WHOLE TIME", cell.real(6, 0), 0 + p / 1000);
        }
        double[] beyond = {-LEAST, -1, -INF};
        for (double p : beyond) {
            Cells.due("told(5)", met(LIMIT, "G 4 P #100", p).told(5), 0);
        }
        met(VACANT, "G 4 P #100", V);
        // Without G 4 P doesn't matter, and the motion stays.
        Cells.due("told(5)", met(0, "P 5").told(5), 0);
        met(0, "P -5");
        modes(met(0, "G 1;G 4 P 1"), 1, 1, 0, 0, 0);
    }

    /** With G 92: the OFFSET at hand has X, Y, Z, those told; no LIMIT there. */
    private static void offsets() {
        for (int o = 0; o < 4; o++) {
            MillCell cell = met(0, "G " + (54 + o) + ";G 92 X 1;G 92 Y 2;G 92 Z 3;G 92 X 4");
            double[] own = {4, 2, 3};
            for (int i = 0; i < 12; i++) {
                Cells.dueReal("real(2, " + i + ")", cell.real(2, i), i / 3 == o ? own[i % 3] : 0);
            }
            Cells.position(cell, 0, 0, 0);
            Cells.due("told(5)", cell.told(5), 0);
        }
        double[] any = {1000, 1000.0000000000001, -1e300, INF, -INF, -0.0, LEAST};
        for (double x : any) {
            MillCell cell = met(0, "G 92 X #100 Y #100 Z #100", x);
            for (int i = 0; i < 3; i++) {
                Cells.dueReal("real(2, " + i + ")", cell.real(2, i), x);
            }
        }
        // Absolute or not, and without one of them, nothing else.
        Cells.dueReal("OFFSET", met(0, "X 5;G 91;G 92 X 3").real(2, 0), 3);
        met(0, "G 92");
        met(0, "G 1;G 92 X 3");
        met(0, "G 92 P -1");
    }

    /** With G 81, 84: NONE, KIND; Z is told, or LACK; the spindle is on, or LACK; LIMIT; FEED is above 0, or LACK. */
    private static void drillAlarms() {
        for (String g : new String[] {"G 81", "G 84"}) {
            String tool = DRILL + (g.equals("G 84") ? "TAKE 0,1;" : "");
            met(NONE, g);
            met(NONE, g + " Z 1");
            met(NONE, DRILL + "BACK 0,0;" + g + " Z 1");
            met(KIND, DRILL + "TAKE 0,2;" + g);
            met(KIND, DRILL + "TAKE 0,2;" + g + " Z 5000");
            met(LACK, tool + "M 3 S 5;" + g);
            met(LACK, tool + "M 3 S 5;" + g + " X 1 Y 1 P 1");
            met(LACK, tool + "S 5;" + g + " Z 1");
            met(LACK, tool + "S 5;" + g + " Z 5000");
            met(LACK, tool + "M 3;M 5 S 5;" + g + " Z 1");
            met(LIMIT, tool + "M 3;" + g + " Z 1000.1");
            met(LIMIT, tool + "M 3;" + g + " Z -1000.1");
            met(LIMIT, tool + "M 3;" + g + " Z[1/0]");
            met(0, tool + "M 3 S 1;" + g + " Z 1000");
            met(0, tool + "M 3 S 1;" + g + " Z -1000");
        }
        // Of a DRILL with S 0 FEED is 0; of a TAP it is 0.5.
        met(LACK, DRILL + "M 3;G 81 Z 1");
        met(LACK, DRILL + "M 3 S -0;G 81 Z 1");
        met(LACK, DRILL + "M 3 S 0;G 81 Z 0");
        met(0, DRILL + "M 3 S 0.00000001;G 81 Z 1");
        // Half of the least is 0.
        met(LACK, DRILL + "M 3 S #100;G 81 Z 1", LEAST);
        met(0, DRILL + "M 3 S #100;G 81 Z 1", 2 * LEAST);
        met(0, DRILL + "TAKE 0,1;M 3;G 84 Z 1");
        met(0, DRILL + "TAKE 0,1;M 3;G 81 Z 1");
        // F doesn't matter, nor motion.
        met(0, DRILL + "M 3 S 1;G 1 F 0;G 81 Z 1");
    }

    /** Two SEGMENTS: to Z, and back, with FEED as their speed; USES 1 more. (Z alone is told so.) */
    private static void drillDone() {
        MillCell cell = met(0, DRILL + "X 1 Y 2 Z 3;G 92 X 50 Y 60 Z 10;M 3 S 8;G 1 F 9;G 81 X 7 Y 8 Z -5");
        Cells.due("told(5)", cell.told(5), 3);
        double[][] want = {{2, 4, 0, 0, 2}, {2, 4, 0, 0, -2}};
        for (int i = 0; i < 2; i++) {
            for (int what = 0; what < 5; what++) {
                Cells.dueReal("segment(" + (i + 1) + ", " + what + ")", cell.segment(i + 1, what), want[i][what]);
            }
        }
        Cells.position(cell, 1, 2, 3);
        Cells.due("USES", cell.count(10), 1);
        Cells.due("no WEAR", cell.pocket(-1, 0, 3), 0);
        cell = met(0, DRILL + "Z 3;M 3 S 8;G 91;G 81 Z -5");
        Cells.dueReal("dz", cell.segment(1, 4), -5);
        Cells.dueReal("dz", cell.segment(2, 4), 5);
        Cells.position(cell, 0, 0, 3);
        // If L is 0 there is no SEGMENT.
        cell = met(0, DRILL + "Z 3;M 3 S 8;G 81 Z 3;G 91;G 81.9 Z 0");
        Cells.due("told(5)", cell.told(5), 1);
        Cells.due("USES", cell.count(10), 2);
        // What is refused is no use.
        Cells.due("USES", met(LIMIT, DRILL + "M 3 S 8;G 81 Z 5000").count(10), 0);
        Cells.due("USES", met(LACK, DRILL + "M 3;G 81 Z 1").count(10), 0);
        Cells.position(met(LACK, DRILL + "M 3;G 81 Z 1"), 0, 0, 0);
    }

    /** 4 KIND: the TOOL held isn't a DRILL (G 81), a TAP (G 84). */
    private static void drillSorts() {
        for (int sort = 0; sort < 6; sort++) {
            met(sort == 3 || sort == 4 ? 0 : KIND, "RACK 0,0,1;LOAD 0,0,#100;TAKE 0,0;M 3 S 2;G 81 Z 1", sort);
            met(sort == 4 ? 0 : KIND, "RACK 0,0,1;LOAD 0,0,#100;TAKE 0,0;M 3 S 2;G 84 Z 1", sort);
        }
        Cells.dueReal("V of a TAP at G 81", met(0, DRILL + "TAKE 0,1;M 3 S 2;G 81 Z 1").segment(0, 1), 3.5);
    }

    /** Else, if one of X, Y, Z is told: with motion 1 F is not 0, or LACK; LIMIT; a SEGMENT to these. */
    private static void travelAlarms() {
        for (String axis : new String[] {"X", "Y", "Z"}) {
            met(LACK, "G 1 " + axis + " 1");
            met(LACK, "G 1 F -0 " + axis + " 1");
            met(LACK, "G 1 " + axis + " 5000");
            met(LACK, "G 1 " + axis + " 0");
            met(LIMIT, "G 1 F 1 " + axis + " 5000");
            met(0, axis + " 1");
            Cells.due("told(5)", met(0, "G 1 F #100 " + axis + " 1", LEAST).told(5), 1);
            for (String g : new String[] {"G 0", "G 54", "G 57", "G 90", "G 91", ""}) {
                Cells.due("told(5) of " + g, met(0, g + " " + axis + " 1").told(5), 1);
            }
        }
        // Without X, Y, Z nothing is wanted.
        met(0, "G 1");
        met(0, "G 1 P 5 S 3 M 3");
        // The motion has become 1, though its way is refused.
        modes(met(LACK, "G 1 X 1"), 1, 1, 0, 0, 0);
    }

    /** A TARGET: of each that is told (absolute) it and the OFFSET's, (not absolute) it and the position's; of others the position's. */
    private static void targets() {
        String start = "X 1 Y 2 Z 3;G 55;G 92 X 10 Y 20 Z 30;";
        Cells.position(met(0, start + "X 5"), 15, 2, 3);
        Cells.position(met(0, start + "Y 5"), 1, 25, 3);
        Cells.position(met(0, start + "Z 5"), 1, 2, 35);
        Cells.position(met(0, start + "X 0 Y 0 Z 0"), 10, 20, 30);
        Cells.position(met(0, start + "G 91 X 5"), 6, 2, 3);
        Cells.position(met(0, start + "G 91 Y 5 Z -5"), 1, 7, -2);
        Cells.position(met(0, start + "G 54 X 5"), 5, 2, 3);
        Cells.position(met(0, start + "G 56 X 5"), 5, 2, 3);
        Cells.position(met(0, "X 0.1;G 91 X 0.2"), 0.1 + 0.2, 0, 0);
        // Zeros' signs as doubles' sums go.
        Cells.position(met(0, "X -0"), 0, 0, 0);
        Cells.position(met(0, "G 92 X -0;X -0"), -0.0, 0, 0);
        Cells.position(met(0, "G 92 X -0;X -0;G 91 X -0"), -0.0, 0, 0);
        Cells.position(met(0, "G 92 X -0;X -0;G 91 X 0"), 0, 0, 0);
        Cells.position(met(0, "G 92 X -0;X -0;Y 1"), -0.0, 1, 0);
    }

    /** LIMIT: one of them isn't -1000 .. 1000. */
    private static void limits() {
        double above = Math.nextUp(1000.0);
        for (String axis : new String[] {"X", "Y", "Z"}) {
            for (double x : new double[] {1000, -1000, 999.9999999999999, -999.9999999999999}) {
                met(0, axis + " #100", x);
                met(0, "G 91 " + axis + " #100", x);
            }
            for (double x : new double[] {above, -above, 1001, -1001, 1e300, -1e300, INF, -INF}) {
                Cells.position(met(LIMIT, axis + " #100", x), 0, 0, 0);
                Cells.position(met(LIMIT, "G 91 " + axis + " #100", x), 0, 0, 0);
            }
            met(0, axis + " 1000;G 91 " + axis + " 0");
            met(LIMIT, axis + " 1000;G 91 " + axis + " #100", 1e-13 * 2);
            met(0, "G 92 " + axis + " 600;" + axis + " 400");
            met(LIMIT, "G 92 " + axis + " 600;" + axis + " 400.1");
            met(0, "G 92 " + axis + " 1500;" + axis + " -2500");
            met(LIMIT, "G 92 " + axis + " 1500;" + axis + " -2500.1");
        }
        // One of them is enough, and none moves then.
        Cells.position(met(LIMIT, "X 1 Y 2 Z 1001"), 0, 0, 0);
        Cells.position(met(LIMIT, "X 1001 Y 2 Z 3"), 0, 0, 0);
        Cells.due("told(5)", met(LIMIT, "X 1 Y 1001").told(5), 0);
    }

    /** Infinite ones, and what would be neither, are beyond, too; an OFFSET that isn't used doesn't matter. */
    private static void infiniteTargets() {
        for (double x : new double[] {INF, -INF}) {
            met(LIMIT, "G 92 X #100;X 0", x);
            met(LIMIT, "G 92 X #100;X -#100", x);
            met(LIMIT, "G 92 X #100;X #100", x);
            met(LIMIT, "G 92 Z #100;" + DRILL + "M 3 S 1;G 81 Z -#100", x);
            Cells.position(met(0, "G 92 X #100;Y 5", x), 0, 5, 0);
            Cells.position(met(0, "G 92 X #100;G 91 X 5", x), 5, 0, 0);
            Cells.position(met(0, "G 92 X #100;G 55 X 5", x), 5, 0, 0);
        }
    }

    /** With dx, dy, dz what it is less the position's: L is SQRT[dx * dx + dy * dy + dz * dz]; V 6000 or F. */
    private static void lengths() {
        MillCell cell = met(0, "X 0.1 Y 0.2 Z 0.7;G 1 F 0.5;X -0.3 Y 0.25 Z -0.6;F 1000000;X 1000 Y -1000 Z 1000");
        double[] at = {0, 0, 0};
        double[][] to = {{0.1, 0.2, 0.7}, {-0.3, 0.25, -0.6}, {1000, -1000, 1000}};
        double[] v = {6000, 0.5, 1000000};
        for (int i = 0; i < 3; i++) {
            double dx = to[i][0] - at[0];
            double dy = to[i][1] - at[1];
            double dz = to[i][2] - at[2];
            Cells.dueReal("L", cell.segment(i, 0), Math.sqrt(dx * dx + dy * dy + dz * dz));
            Cells.dueReal("V", cell.segment(i, 1), v[i]);
            Cells.dueReal("dx", cell.segment(i, 2), dx);
            Cells.dueReal("dy", cell.segment(i, 3), dy);
            Cells.dueReal("dz", cell.segment(i, 4), dz);
            at = to[i];
        }
    }

    /** The position is the TARGET. If L is 0 there is no SEGMENT. */
    private static void noLength() {
        Cells.due("told(5)", met(0, "X 0;Y 0;Z 0;X 0 Y 0 Z 0;G 91 X 0").told(5), 0);
        Cells.due("told(5)", met(0, "X 5;X 5;G 91 X 0").told(5), 1);
        // The square of 1.5e-162 is below half of the least REAL, that of 1.6e-162 above it.
        MillCell cell = met(0, "X #100", 1.5e-162);
        Cells.due("told(5)", cell.told(5), 0);
        Cells.position(cell, 1.5e-162, 0, 0);
        cell = met(0, "X #100", 1.6e-162);
        Cells.due("told(5)", cell.told(5), 1);
        Cells.dueReal("L", cell.segment(0, 0), Math.sqrt(LEAST));
        Cells.position(cell, 1.6e-162, 0, 0);
        // -0 for 0: it moves by nothing, but it is there.
        cell = met(0, "G 92 X -0;X -0");
        Cells.due("told(5)", cell.told(5), 0);
        Cells.position(cell, -0.0, 0, 0);
    }

    /** With motion 1, the spindle on and a TOOL held: WEAR + L * 0.001953125, in FLOATS (L rounded to one first). */
    private static void wears() {
        float wear = 0f;
        MillCell cell = of(DRILL + "M 3 F 5;G 1;G 91;O 2;X #100 Y #101");
        cell.run(1, 99);
        double[][] ways = {{0.1, 0.2}, {-0.3, 0.7}, {512, 0}, {1e-5, 0}, {16.777217, 0}, {-500, -0.9}, {1e-40, 0}, {0, 0}, {400, 400}};
        for (double[] way : ways) {
            double from = Double.longBitsToDouble(cell.real(1, 0));
            double fromY = Double.longBitsToDouble(cell.real(1, 1));
            cell.param(100, Cells.bits(way[0]));
            cell.param(101, Cells.bits(way[1]));
            Cells.due("run(2, 9)", cell.run(2, 9), 0);
            double dx = way[0] + from - from;
            double dy = way[1] + fromY - fromY;
            wear = wear + (float) Math.sqrt(dx * dx + dy * dy + 0) * 0.001953125f;
            Cells.due("WEAR", cell.pocket(-1, 0, 3), Float.floatToIntBits(wear));
        }
    }

    /** (Not with G 81, 84), not rapid, not with the spindle off, not without a TOOL, and of the TOOL held alone. */
    private static void wearNot() {
        Cells.due("G 81", met(0, DRILL + "M 3 S 5 F 5;G 1;G 81 Z 5").pocket(-1, 0, 3), 0);
        Cells.due("rapid", met(0, DRILL + "M 3 F 5;X 5").pocket(-1, 0, 3), 0);
        Cells.due("off", met(0, DRILL + "F 5;G 1 X 5").pocket(-1, 0, 3), 0);
        Cells.due("refused", met(LIMIT, DRILL + "M 3 F 5;G 1 X 5000").pocket(-1, 0, 3), 0);
        met(0, "M 3 F 5;G 1 X 5");
        MillCell cell = met(0, DRILL + "M 3 F 5;G 1 X 512;BACK 0,0;X 0;TAKE 0,1;X 256");
        Cells.due("WEAR of the first", cell.pocket(0, 0, 3), Float.floatToIntBits(1f));
        Cells.due("WEAR of the second", cell.pocket(-1, 0, 3), Float.floatToIntBits(0.5f));
        Cells.due("USES", cell.count(10), 0);
    }

    /** At most 400 SEGMENTS are kept a run, others are counted (and do all else). */
    private static void keptSegments() {
        for (int n : new int[] {0, 1, 399, 400, 401, 402}) {
            MillCell cell = of(DRILL + "M 3 F 5 S 5;G 91;G 1;#1=#100;WHILE #1;#1=#1-1;X 1;END", n);
            Cells.due("run of " + n, cell.run(1, 9999), 0);
            Cells.due("told(5) of " + n, cell.told(5), n);
            Cells.due("told(6) of " + n, cell.told(6), Math.min(n, 400));
            Cells.dueReal("X", cell.real(1, 0), n);
            Cells.due("WEAR", cell.pocket(-1, 0, 3), Float.floatToIntBits(n * 0.001953125f));
            for (int i : new int[] {-1, 0, 398, 399, 400, 401}) {
                boolean there = i >= 0 && i < n && i < 400;
                Cells.due("segment(" + i + ", 0) of " + n, cell.segment(i, 0), there ? Cells.bits(1) : Cells.VACANT);
            }
        }
        // A dwell, and a G 81 of which one or both are too many.
        for (int n = 397; n <= 401; n++) {
            MillCell cell = of(DRILL + "M 3 F 5 S 5;G 91;G 1;#1=#100;WHILE #1;#1=#1-1;X 1;END;G 4 P 500", n);
            Cells.due("run with a dwell", cell.run(1, 9999), 0);
            Cells.due("told(5)", cell.told(5), n + 1);
            Cells.due("told(6)", cell.told(6), Math.min(n + 1, 400));
            Cells.due("the dwell", cell.segment(n, 6), n < 400 ? Cells.bits(0.5) : Cells.VACANT);
            cell = of(DRILL + "M 3 F 5 S 5;G 91;G 1;#1=#100;WHILE #1;#1=#1-1;X 1;END;G 81 Z -5", n);
            Cells.due("run with a G 81", cell.run(1, 9999), 0);
            Cells.due("told(5)", cell.told(5), n + 2);
            Cells.due("told(6)", cell.told(6), Math.min(n + 2, 400));
            Cells.due("USES", cell.count(10), 1);
            Cells.position(cell, n, 0, 0);
            Cells.due("segment(399, 4)", cell.segment(399, 4),
                n == 398 ? Cells.bits(5) : n == 399 ? Cells.bits(-5) : n == 397 ? Cells.VACANT : Cells.bits(0));
        }
        // Each run begins anew.
        MillCell cell = of("G 91;#1=400;WHILE #1;#1=#1-1;X 1;X -1;END;O 2;X 2");
        cell.run(1, 9999);
        Cells.due("told(5)", cell.told(5), 800);
        cell.run(2, 9);
        Cells.due("told(6)", cell.told(6), 1);
        Cells.dueReal("segment(0, 0)", cell.segment(0, 0), 2);
        Cells.due("segment(1, 0)", cell.segment(1, 0), Cells.VACANT);
    }

    /** (Other LETTERS don't matter there.) */
    private static void otherLetters() {
        Cells.position(met(0, "X 1 P -5"), 1, 0, 0);
        Cells.position(met(0, "G 4 P 5 X 5000 Y 1"), 0, 0, 0);
        Cells.position(met(0, "G 92 X 5000 P -1"), 0, 0, 0);
        Cells.position(met(0, DRILL + "M 3 S 1;G 81 Z 1 X 5000 Y -5000 P -1"), 0, 0, 0);
        Cells.position(met(0, "G 4 P 5 Z[1/0]"), 0, 0, 0);
    }
}
