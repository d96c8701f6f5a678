import java.util.Arrays;

/** What the tests share: a text onto the tape, calls with the answer that is due, and the verdict. */
final class Cells {
    static final long VACANT = 0x7ff8000000000000L;
    static final int NOTHING = 0;
    static final int ARGUMENT = 1;
    static final int STATE = 2;

    private static int wrong = 0;
    private static int asked = 0;

    private Cells() {
    }

    /** Feeds the text by twenties; what the last twenty has too much goes back. */
    static void tape(MillCell cell, String text) {
        for (int at = 0; at < text.length(); at += 20) {
            cell.feed(word(text, at), word(text, at + 4), word(text, at + 8), word(text, at + 12), word(text, at + 16));
        }
        cell.back((20 - text.length() % 20) % 20);
    }

    static int word(String text, int at) {
        int w = 0;
        for (int i = at; i < at + 4; i++) {
            w = w << 8 | (i < text.length() ? text.charAt(i) & 255 : 0);
        }
        return w;
    }

    static MillCell of(String... lines) {
        MillCell cell = new MillCell();
        String text = String.join("\n", lines);
        tape(cell, text);
        due(text, cell.read(), 0);
        return cell;
    }

    static int fault(String text) {
        MillCell cell = new MillCell();
        tape(cell, text);
        return cell.read();
    }

    static long bits(double x) {
        return Double.doubleToLongBits(x);
    }

    /** 1 for an IllegalArgumentException, 2 for an IllegalStateException, 0 for none. */
    static int thrown(MillCell cell, int o, int steps) {
        try {
            cell.run(o, steps);
        } catch (IllegalArgumentException e) {
            return ARGUMENT;
        } catch (IllegalStateException e) {
            return STATE;
        }
        return NOTHING;
    }

    static void due(String call, long got, long want) {
        asked++;
        if (got != want) {
            wrong++;
            System.out.println(call + " answered " + got + ", due is " + want);
        }
    }

    static void due(String call, boolean got, boolean want) {
        due(call, got ? 1 : 0, want ? 1 : 0);
    }

    static void dueReal(String call, long got, double want) {
        asked++;
        if (got != bits(want)) {
            wrong++;
            System.out.println(call + " answered " + Double.longBitsToDouble(got) + ", due is " + want);
        }
    }

    /** Runs O 1 and compares OUT. */
    static void prints(MillCell cell, double... want) {
        cell.run(1, 10000);
        due("told(7)", cell.told(7), want.length);
        for (int i = 0; i < want.length; i++) {
            dueReal("real(4, " + i + ")", cell.real(4, i), want[i]);
        }
    }

    private static MillCell printing(String e, double... params) {
        MillCell cell = of("O 1", "", "PRINT " + e);
        for (int i = 0; i < params.length; i++) {
            cell.param(100 + i, Double.doubleToRawLongBits(params[i]));
        }
        return cell;
    }

    /** What E is, with #100 .. as told. */
    static void value(String e, double want, double... params) {
        MillCell cell = printing(e, params);
        due("run of " + e, cell.run(1, 9), 0);
        dueReal(e + " of " + Arrays.toString(params), cell.real(4, 0), want);
    }

    /** E, with #100 .. as told, meets this alarm. */
    static void refused(String e, int alarm, double... params) {
        MillCell cell = printing(e, params);
        due("run of " + e, cell.run(1, 9), 1);
        due("alarm of " + e, cell.told(0), alarm);
        due("line of " + e, cell.told(1), 3);
    }

    /** O 1 of these lines, parted by ; is run and meets this alarm; 0: it ends without one. */
    static MillCell done(int alarm, String text) {
        MillCell cell = of(("O 1;" + text).split("; ?", -1));
        due("run of " + text, cell.run(1, 10000), alarm == 0 ? 0 : 1);
        due("alarm of " + text, cell.told(0), alarm);
        return cell;
    }

    static void position(MillCell cell, double x, double y, double z) {
        dueReal("X", cell.real(1, 0), x);
        dueReal("Y", cell.real(1, 1), y);
        dueReal("Z", cell.real(1, 2), z);
    }

    static void end() {
        System.out.println(asked + " answers, " + wrong + " wrong");
        System.exit(wrong == 0 && asked > 0 ? 0 : 1);
    }
}
