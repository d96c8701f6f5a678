/** A machining cell: programs of words, read from a tape, that move a tool; the document numbers its promises. */
public final class MillCell {
    /** None such. */
    public static final int NONE = -1;

    private static final int TAPE_BYTES = 5000;
    private static final int FEED_BYTES = 20;
    private static final int MOST_STEPS = 10000;

    private static final int LETTERS = 26;
    private static final int COMMON_FIRST = 100;
    private static final int COMMON = 50;
    private static final int BANKS = 8;
    private static final int RACKS = 4;
    private static final int SORTS = 6;

    private static final int ALARM_NONE = 1;
    private static final int ALARM_PLACE = 2;
    private static final int ALARM_SIZE = 3;
    private static final int ALARM_KIND = 4;
    private static final int ALARM_STORE = 5;
    private static final int ALARM_ZERO = 6;
    private static final int ALARM_VACANT = 7;
    private static final int ALARM_LIMIT = 8;
    private static final int ALARM_LACK = 9;
    private static final int ALARM_RAISED = 10;
    private static final int ALARM_ANY = 11;
    // Not alarms, but handed up the same way: the run ends without handlers.
    private static final int END_DEEP = 12;
    private static final int END_FULL = 13;

    private static final int LINE_IF = 0;
    private static final int LINE_ELSE = 1;
    private static final int LINE_WHILE = 2;
    private static final int LINE_TRY = 3;
    private static final int LINE_ON = 4;
    private static final int LINE_LAST = 5;
    private static final int LINE_GUARD = 6;
    private static final int LINE_END = 7;
    private static final int LINE_CALL = 8;
    private static final int LINE_RETURN = 9;
    private static final int LINE_ALARM = 10;
    private static final int LINE_PRINT = 11;
    private static final int LINE_FIT = 12;
    private static final int LINE_DROP = 13;
    private static final int LINE_PUT = 14;
    private static final int LINE_MOVE = 15;
    private static final int LINE_RACK = 16;
    private static final int LINE_LOAD = 17;
    private static final int LINE_TAKE = 18;
    private static final int LINE_BACK = 19;
    private static final int LINE_ASSIGN = 20;
    private static final int LINE_MOTION = 21;
    private static final int LINE_PROGRAM = 22;

    private static final int OP_NUMBER = 0;
    private static final int OP_PARAMETER = 1;
    private static final int OP_NEGATE = 2;
    private static final int OP_ADD = 3;
    private static final int OP_SUBTRACT = 4;
    private static final int OP_MULTIPLY = 5;
    private static final int OP_DIVIDE = 6;
    private static final int OP_COMPARE = 7;
    private static final int OP_VACANT = 13;
    private static final int OP_FEED = 14;
    private static final int OP_WHY = 15;
    private static final int OP_WHAT = 16;
    private static final int OP_FUNCTION = 20;
    private static final int OP_TELL = 64;

    private static final String LINE_WORDS =
        "IF ELSE WHILE TRY ON LAST GUARD END CALL RETURN ALARM PRINT FIT DROP PUT MOVE RACK LOAD TAKE BACK";
    private static final String ALARM_WORDS = "NONE PLACE SIZE KIND STORE ZERO VACANT LIMIT LACK RAISED ANY";
    private static final String COMPARE_WORDS = "EQ NE LT LE GT GE";
    private static final String ATOM_WORDS = "VACANT FEED WHY WHAT";
    // First those of one E, then of two, then of three: their numbers are their places here.
    private static final String FUNCTION_WORDS =
        "ABS FIX FUP RND SQRT SGN ULP NXT INT VAC LONG SING LEN POS HELD MIN MAX CPS MOD DIV REM AND OR XOR SHL SHR PORT MID";
    private static final int FUNCTION_ABS = 0;
    private static final int FUNCTION_FIX = 1;
    private static final int FUNCTION_FUP = 2;
    private static final int FUNCTION_RND = 3;
    private static final int FUNCTION_SQRT = 4;
    private static final int FUNCTION_SGN = 5;
    private static final int FUNCTION_ULP = 6;
    private static final int FUNCTION_NXT = 7;
    private static final int FUNCTION_INT = 8;
    private static final int FUNCTION_VAC = 9;
    private static final int FUNCTION_LONG = 10;
    private static final int FUNCTION_SING = 11;
    private static final int FUNCTION_LEN = 12;
    private static final int FUNCTION_POS = 13;
    private static final int FUNCTION_HELD = 14;
    private static final int FUNCTION_MIN = 15;
    private static final int FUNCTION_MAX = 16;
    private static final int FUNCTION_CPS = 17;
    private static final int FUNCTION_MOD = 18;
    private static final int FUNCTION_DIV = 19;
    private static final int FUNCTION_REM = 20;
    private static final int FUNCTION_AND = 21;
    private static final int FUNCTION_OR = 22;
    private static final int FUNCTION_XOR = 23;
    private static final int FUNCTION_SHL = 24;
    private static final int FUNCTION_SHR = 25;
    private static final int FUNCTION_PORT = 26;
    private static final int FUNCTION_MID = 27;
    private static final String MOTION_LETTERS = "GMXYZFSP";

    private final byte[] tape;
    private int length;
    private boolean loaded;
    // Made by the first read(): a cell that is never read stays small.
    private Parser parser;
    private Runner runner;

    public MillCell() {
        tape = new byte[TAPE_BYTES];
    }

    public int feed(int a, int b, int c, int d, int e) {
        if (length + FEED_BYTES > TAPE_BYTES) {
            return NONE;
        }
        appendBytes(a);
        appendBytes(b);
        appendBytes(c);
        appendBytes(d);
        appendBytes(e);
        return length;
    }

    private void appendBytes(int word) {
        for (int shift = 24; shift >= 0 && length < TAPE_BYTES; shift -= 8) {
            tape[length] = (byte) (word >> shift);
            length++;
        }
    }

    public int back(int n) {
        if (n < 0 || n > length) {
            return NONE;
        }
        length -= n;
        return length;
    }

    public int read() {
        if (parser == null || runner == null) {
            Code code = new Code();
            parser = new Parser(tape, code);
            runner = new Runner(code);
        }
        parser.begin(length);
        length = 0;
        runner.reset();
        try {
            parser.takeLines();
        } catch (IllegalStateException e) {
            // The parser has written down which fault it met.
            loaded = false;
            return parser.fault;
        }
        int fault = parser.excess();
        loaded = fault == 0;
        return fault;
    }

    public boolean param(int k, long bits) {
        if (!hasProgram() || !isCommon(k)) {
            return false;
        }
        runner.evaluator.common.setBits(k - COMMON_FIRST, bits);
        return true;
    }

    public int run(int o, int steps) throws IllegalArgumentException, IllegalStateException {
        if (!hasProgram()) {
            throw new IllegalStateException("no program");
        }
        if (runner.code.startOf(o) < 0) {
            throw new IllegalArgumentException("no such program");
        }
        if (steps < 0 || steps > MOST_STEPS) {
            throw new IllegalArgumentException("steps");
        }
        return runner.perform(o, steps);
    }

    public int told(int what) {
        if (what < 0 || what > 7) {
            return NONE;
        }
        return hasProgram() ? runner.tale(what) : 0;
    }

    public int count(int what) {
        if (what < 0 || what > 13) {
            return NONE;
        }
        if (what >= 11) {
            return runner == null ? 0 : runner.madeSoFar(what);
        }
        if (!hasProgram()) {
            return 0;
        }
        if (what <= 2) {
            return runner.code.extent(what);
        }
        return what <= 7 ? runner.mill.mode[what - 3] : heldCount(what);
    }

    private int heldCount(int what) {
        return toolAnswer(runner.store.held, what - 8);
    }

    public long real(int where, int i) {
        if (!hasProgram()) {
            return Reals.VACANT_BITS;
        }
        switch (where) {
            case 0:
                return isCommon(i) ? runner.evaluator.common.bitsAt(i - COMMON_FIRST) : Reals.VACANT_BITS;
            case 1:
                return i >= 0 && i < 3 ? Reals.bitsOf(runner.mill.position[i]) : Reals.VACANT_BITS;
            case 2:
                return i >= 0 && i < 12 ? Reals.bitsOf(runner.mill.offsets[i]) : Reals.VACANT_BITS;
            case 3:
                return i == 0 || i == 1 ? Reals.bitsOf(runner.mill.speeds[i]) : Reals.VACANT_BITS;
            case 4:
                return runner.outBits(i);
            case 5:
                return i == 0 ? runner.wentOutBits() : Reals.VACANT_BITS;
            case 6:
                return i == 0 ? runner.path.wholeBits() : Reals.VACANT_BITS;
            case 7:
                return i >= 1 && i <= LETTERS ? runner.evaluator.frames.bitsAt(i) : Reals.VACANT_BITS;
            default:
                return Reals.VACANT_BITS;
        }
    }

    public long segment(int i, int what) {
        return hasProgram() ? runner.path.bitsAt(i, what) : Reals.VACANT_BITS;
    }

    public int bank(int b) {
        return hasProgram() ? runner.store.cells(b) : NONE;
    }

    public long cell(int b, int i) {
        return hasProgram() ? runner.store.content(b, i) : 0;
    }

    public int pocket(int r, int p, int what) {
        // The spindle too is none such without a program; with one it answers as an empty pocket does.
        if (!hasProgram()) {
            return NONE;
        }
        boolean ofTool = what >= 0 && what <= 3;
        if (r == NONE) {
            return ofTool ? toolAnswer(runner.store.held, what) : NONE;
        }
        Rack rack = runner.store.rackAt(r);
        if (rack == null) {
            return NONE;
        }
        if (what == 4) {
            return rack.pockets.length;
        }
        if (what == 5) {
            return rack.sort;
        }
        return ofTool && rack.has(p) ? toolAnswer(rack.pockets[p], what) : NONE;
    }

    private boolean hasProgram() {
        return loaded && runner != null;
    }

    private static int toolAnswer(Tool tool, int what) {
        if (tool == null) {
            return what == 0 ? NONE : 0;
        }
        switch (what) {
            case 0:
                return tool.sort;
            case 1:
                return tool.number;
            case 2:
                return tool.uses;
            default:
                return Reals.floatBits(Reals.bitsOf((double) tool.wear));
        }
    }

    private static boolean isCommon(int k) {
        return k >= COMMON_FIRST && k < COMMON_FIRST + COMMON;
    }

    /** A row of REALS, VACANT where it is not filled, and what is worked out on REALS without a NaN. */
    private static final class Reals {
        static final long VACANT_BITS = 0x7ff8000000000000L;
        static final long INFINITE_BITS = 0x7ff0000000000000L;
        static final long FRACTION = 0xfffffffffffffL;
        static final long HIDDEN = 0x10000000000000L;

        final double[] value;
        final boolean[] filled;

        Reals(int size) {
            int length = size < 0 ? 0 : size;
            value = new double[length];
            filled = new boolean[length];
        }

        boolean has(int i) {
            return i >= 0 && i < value.length;
        }

        void set(int i, double x) {
            if (has(i)) {
                value[i] = x;
                filled[i] = true;
            }
        }

        void setVacant(int i) {
            if (has(i)) {
                // A VACANT place keeps a plain 0, so that no NaN is ever worked out.
                value[i] = 0;
                filled[i] = false;
            }
        }

        void setBits(int i, long bits) {
            if (isVacant(bits)) {
                setVacant(i);
            } else {
                set(i, ofBits(bits));
            }
        }

        void copy(int i, Reals other, int j) {
            if (has(i)) {
                boolean some = other.has(j) && other.filled[j];
                value[i] = some ? other.value[j] : 0;
                filled[i] = some;
            }
        }

        void clear() {
            for (int i = 0; i < value.length; i++) {
                setVacant(i);
            }
        }

        long bitsAt(int i) {
            return has(i) && filled[i] ? bitsOf(value[i]) : VACANT_BITS;
        }

        static boolean isVacant(long bits) {
            return (bits & INFINITE_BITS) == INFINITE_BITS && (bits & FRACTION) != 0;
        }

        static boolean isInfinite(double x) {
            return x > 1.7976931348623157E308 || x < -1.7976931348623157E308;
        }

        static boolean isNegative(double x) {
            return x < 0 || x == 0 && 1.0 / x < 0;
        }

        /** 2 to the k, k a power of two up to 512. */
        static double twoTo(int k) {
            switch (k) {
                case 512:
                    return 1.3407807929942597E154;
                case 256:
                    return 1.157920892373162E77;
                case 128:
                    return 3.4028236692093846E38;
                case 64:
                    return 18446744073709551616.0;
                case 32:
                    return 4294967296.0;
                case 16:
                    return 65536.0;
                case 8:
                    return 256.0;
                case 4:
                    return 16.0;
                case 2:
                    return 4.0;
                default:
                    return 2.0;
            }
        }

        /** x times 2 to the k (-1535 .. 1535), where that needs no rounding. */
        static double scaled(double x, int k) {
            double y = x;
            int left = k < 0 ? -k : k;
            double power = 2;
            for (int bit = 0; bit < 9; bit++) {
                if ((left >> bit & 1) == 1) {
                    y = k < 0 ? y / power : y * power;
                }
                power = power * power;
            }
            // The least double is 2 to the -1074, but 2 to the 1024 is none.
            for (int n = left >> 9; n > 0; n--) {
                y = k < 0 ? y / power : y * power;
            }
            return y;
        }

        static long bitsOf(double x) {
            long sign = isNegative(x) ? Long.MIN_VALUE : 0;
            double size = x < 0 ? -x : x;
            if (size == 0) {
                return sign;
            }
            if (isInfinite(size)) {
                return sign | INFINITE_BITS;
            }
            if (size < 2.2250738585072014E-308) {
                return sign | (long) scaled(size, 1074);
            }
            int exponent = 0;
            for (int step = 512; step > 0; step = step / 2) {
                double power = twoTo(step);
                if (size >= power) {
                    size = size / power;
                    exponent += step;
                } else if (size * power < 2) {
                    size = size * power;
                    exponent -= step;
                }
            }
            long fraction = (long) (size * 4503599627370496.0) - HIDDEN;
            return sign | (long) (exponent + 1023) << 52 | fraction;
        }

        /** The double with these bits, which are not VACANT's. */
        static double ofBits(long bits) {
            double size = (bits & INFINITE_BITS) == INFINITE_BITS
                ? scaled(1, 1024)
                : scaled((double) mantissa(bits), exponent(bits));
            return bits < 0 ? -size : size;
        }

        /** A finite double is its mantissa times 2 to its exponent. */
        static long mantissa(long bits) {
            return (bits & INFINITE_BITS) == 0 ? bits & FRACTION : bits & FRACTION | HIDDEN;
        }

        static int exponent(long bits) {
            return Math.max((int) (bits >>> 52) & 0x7ff, 1) - 1075;
        }

        /** The bits of the FLOAT that is the same number as the double with these bits. */
        static int floatBits(long bits) {
            int sign = bits < 0 ? Integer.MIN_VALUE : 0;
            int field = (int) (bits >>> 52) & 0x7ff;
            if (field == 0) {
                return sign;
            }
            if (field == 0x7ff) {
                return sign | 0x7f800000;
            }
            int own = field - 896;
            if (own > 0) {
                return sign | own << 23 | (int) ((bits & FRACTION) >>> 29);
            }
            int shift = 30 - own;
            return shift > 53 ? sign : sign | (int) (mantissa(bits) >>> shift);
        }

        static double floor(double x) {
            if (x == 0 || !isFractional(x)) {
                return x;
            }
            double whole = (double) (long) x;
            return whole > x ? whole - 1 : whole;
        }

        static double ceiling(double x) {
            return -floor(-x);
        }

        static double nearest(double x) {
            if (x == 0 || !isFractional(x)) {
                return x;
            }
            double size = x < 0 ? -x : x;
            long below = (long) size;
            double rest = size - (double) below;
            boolean up = rest > 0.5 || rest == 0.5 && (below & 1) == 1;
            double whole = (double) (up ? below + 1 : below);
            return x < 0 ? -whole : whole;
        }

        // From 2 to the 52 on every double is whole.
        static boolean isFractional(double x) {
            return x > -4503599627370496.0 && x < 4503599627370496.0;
        }

        /** The root of x, which is not below 0, as IEEE 754 rounds it. */
        static double root(double x) {
            if (x == 0 || isInfinite(x)) {
                return x;
            }
            double part = x;
            int exponent = 0;
            if (part < 2.2250738585072014E-308) {
                part = part * 18446744073709551616.0;
                exponent = -64;
            }
            for (int step = 512; step > 1; step = step / 2) {
                double power = twoTo(step);
                if (part >= power) {
                    part = part / power;
                    exponent += step;
                } else if (part * power < 4) {
                    part = part * power;
                    exponent -= step;
                }
            }
            return scaled((double) wholeRoot(part), exponent / 2 - 52);
        }

        /** The nearest whole number to 2 to the 52 times the root of x, 1 .. 4. */
        static long wholeRoot(double x) {
            double y = (x + 1) / 2;
            for (int n = 0; n < 6; n++) {
                y = (y + x / y) / 2;
            }
            long q = (long) (y * 4503599627370496.0);
            long square = (long) (x * 4503599627370496.0) << 54;
            // Squares of 2q wrap around, but are so near to each other that their differences are exact.
            for (int n = 0; n < 8; n++) {
                long above = 2 * q + 1;
                long below = 2 * q - 1;
                if (square - above * above > 0) {
                    q++;
                } else if (square - below * below < 0) {
                    q--;
                } else {
                    return q;
                }
            }
            return q;
        }

        /** The exact rest of a by b, both finite, b not 0. */
        static double rest(double a, double b) {
            long of = bitsOf(a) & Long.MAX_VALUE;
            long by = bitsOf(b) & Long.MAX_VALUE;
            if (of < by) {
                return a;
            }
            long divisor = mantissa(by);
            if (divisor == 0) {
                return a;
            }
            long left = mantissa(of) % divisor;
            // Ten bits at once: a mantissa has 53, so nothing is lost of 63.
            for (int shift = exponent(of) - exponent(by); shift > 0; shift -= 10) {
                left = (left << Math.min(shift, 10)) % divisor;
            }
            double size = scaled((double) left, exponent(by));
            return a < 0 ? -size : size;
        }

        static double lesser(double a, double b) {
            if (a == b) {
                return isNegative(a) ? a : b;
            }
            return a < b ? a : b;
        }

        static double greater(double a, double b) {
            if (a == b) {
                return isNegative(a) ? b : a;
            }
            return a > b ? a : b;
        }

        static double unit(double x) {
            if (isInfinite(x)) {
                return x < 0 ? -x : x;
            }
            return scaled(1.0, exponent(bitsOf(x)));
        }

        static double next(double x) {
            if (x == 0) {
                return ofBits(1);
            }
            if (x > 0) {
                return isInfinite(x) ? x : ofBits(bitsOf(x) + 1);
            }
            return ofBits(bitsOf(x) - 1);
        }

        static double signOf(double x) {
            return x < 0 ? -1 : x > 0 ? 1 : x;
        }

        static double withSign(double a, boolean negative) {
            return isNegative(a) == negative ? a : -a;
        }

        /** Whether a op b, for OP_ADD to OP_DIVIDE, would be a NaN. */
        static boolean isUndefined(int op, double a, double b) {
            boolean aInfinite = isInfinite(a);
            boolean bInfinite = isInfinite(b);
            switch (op) {
                case OP_ADD:
                    return aInfinite && bInfinite && a != b;
                case OP_SUBTRACT:
                    return aInfinite && bInfinite && a == b;
                case OP_MULTIPLY:
                    return aInfinite && b == 0 || bInfinite && a == 0;
                default:
                    return aInfinite && bInfinite || a == 0 && b == 0;
            }
        }

        static double combine(int op, double a, double b) {
            switch (op) {
                case OP_ADD:
                    return a + b;
                case OP_SUBTRACT:
                    return a - b;
                case OP_MULTIPLY:
                    return a * b;
                default:
                    return a / b;
            }
        }

        /** 0 EQ, 1 NE, 2 LT, 3 LE, 4 GT, 5 GE. */
        static boolean compares(int how, double a, double b) {
            switch (how) {
                case 0:
                    return a == b;
                case 1:
                    return a != b;
                case 2:
                    return a < b;
                case 3:
                    return a <= b;
                case 4:
                    return a > b;
                default:
                    return a >= b;
            }
        }
    }

    /** The TOKENS of the tape, one at hand. */
    private static final class Scanner {
        static final int WORD = 1;
        static final int NUMBER = 2;
        static final int SIGN = 3;
        static final int ROW_END = 4;
        static final int TEXT_END = 5;
        static final int BAD = 6;
        static final int MOST_DIGITS = 9;
        static final String SIGNS = "#[],=+-*/";

        private final byte[] tape;
        private int length;
        private int from;
        private int to;
        // Where the point of the NUMBER at hand is; NONE without one.
        private int point;
        int kind;
        int row;
        int tokens;

        Scanner(byte[] tape) {
            this.tape = tape;
        }

        void begin(int bytes) {
            length = Math.max(0, Math.min(bytes, tape.length));
            to = 0;
            row = 1;
            tokens = 0;
            kind = BAD;
            advance();
        }

        void advance() {
            if (kind == ROW_END) {
                row++;
            }
            from = pastBlanks(to);
            to = from;
            if (from >= length) {
                kind = TEXT_END;
                return;
            }
            byte c = tape[from];
            if (c == '\n') {
                to = from + 1;
                kind = ROW_END;
            } else if (c >= 'A' && c <= 'Z') {
                to = pastWord(from);
                kind = WORD;
            } else if (c >= '0' && c <= '9') {
                to = pastNumber(from);
                int digits = to - from - (point < 0 ? 0 : 1);
                kind = digits <= MOST_DIGITS ? NUMBER : BAD;
            } else if (c > ' ' && SIGNS.indexOf((char) c) >= 0) {
                to = from + 1;
                kind = SIGN;
            } else {
                kind = BAD;
            }
            if (kind <= SIGN) {
                tokens++;
            }
        }

        /** Stays ahead of a comment that doesn't end: its ( is no TOKEN. */
        private int pastBlanks(int start) {
            int at = start;
            int opened = NONE;
            while (at < length && tape[at] != '\n' && (opened >= 0 || tape[at] == ' ' || tape[at] == '(')) {
                if (opened < 0 && tape[at] == '(') {
                    opened = at;
                } else if (opened >= 0 && tape[at] == ')') {
                    opened = NONE;
                }
                at++;
            }
            return opened < 0 ? at : opened;
        }

        private int pastWord(int start) {
            int at = start;
            while (at < length && tape[at] >= 'A' && tape[at] <= 'Z') {
                at++;
            }
            return at;
        }

        /** A point is the NUMBER's only with a digit behind it. */
        private int pastNumber(int start) {
            int at = start;
            point = NONE;
            while (at < length) {
                boolean digit = tape[at] >= '0' && tape[at] <= '9';
                boolean pointed = tape[at] == '.' && point < 0
                    && at + 1 < length && tape[at + 1] >= '0' && tape[at + 1] <= '9';
                if (!digit && !pointed) {
                    return at;
                }
                point = pointed ? at : point;
                at++;
            }
            return at;
        }

        double number() {
            long whole = 0;
            long divisor = 1;
            for (int at = from; at < to; at++) {
                if (at != point) {
                    whole = whole * 10 + (tape[at] - '0');
                    divisor = point >= 0 && at > point ? divisor * 10 : divisor;
                }
            }
            return (double) whole / (double) divisor;
        }

        /** The NUMBER at hand, if it is 0 .. 99 without a point; else NONE. */
        int programNumber() {
            if (kind != NUMBER || point >= 0) {
                return NONE;
            }
            double x = number();
            return x < Code.NUMBERS ? (int) x : NONE;
        }

        boolean isSign(char sign) {
            return kind == SIGN && from < length && tape[from] == sign;
        }

        boolean atRowEnd() {
            return kind == ROW_END || kind == TEXT_END;
        }

        /** A 1 .. Z 26, if a WORD of one letter is at hand; else 0. */
        int letter() {
            return kind == WORD && to == from + 1 && from < length ? tape[from] - 'A' + 1 : 0;
        }

        /** Which one of the list's words, parted by blanks, is at hand; NONE, if none is. */
        int wordIn(String list) {
            if (kind != WORD) {
                return NONE;
            }
            int index = 0;
            int start = 0;
            for (int i = 0; i <= list.length(); i++) {
                if (i == list.length() || list.charAt(i) == ' ') {
                    if (isWord(list, start, i)) {
                        return index;
                    }
                    index++;
                    start = i + 1;
                }
            }
            return NONE;
        }

        private boolean isWord(String list, int start, int end) {
            if (end - start != to - from || to > length) {
                return false;
            }
            for (int i = start; i < end; i++) {
                if (list.charAt(i) != tape[from + i - start]) {
                    return false;
                }
            }
            return true;
        }
    }

    /** The programs as LINES with code for their Es, operands ahead of what is done with them. */
    private static final class Code {
        static final int MOST_TOKENS = 1000;
        static final int MOST_LINES = 250;
        static final int MOST_PROGRAMS = 12;
        static final int NUMBERS = 100;

        final int[] op = new int[MOST_TOKENS];
        final double[] number = new double[MOST_TOKENS];
        final int[] kind = new int[MOST_LINES];
        final int[] row = new int[MOST_LINES];
        final int[] from = new int[MOST_LINES + 1];
        // An IF's, ELSE's, WHILE's, TRY's, ON's .. next part of its block; an END's first one.
        final int[] next = new int[MOST_LINES];
        // A CALL's PROGRAM, an ON's alarm.
        final int[] argument = new int[MOST_LINES];
        private final int[] start = new int[NUMBERS];
        private int ops;
        int lines;
        int programs;
        int tokens;

        void clear() {
            ops = 0;
            lines = 0;
            programs = 0;
            tokens = 0;
            for (int i = 0; i < NUMBERS; i++) {
                start[i] = NONE;
            }
        }

        /** What is beyond the limits is counted and not kept: such a text is refused in the end. */
        void emit(int operation, double x) {
            if (ops < MOST_TOKENS) {
                op[ops] = operation;
                number[ops] = x;
                ops++;
            }
        }

        int addLine(int lineKind, int textRow) {
            int line = lines;
            lines++;
            if (line < MOST_LINES) {
                kind[line] = lineKind;
                row[line] = textRow;
                from[line] = ops;
                next[line] = line;
                argument[line] = 0;
            }
            return line;
        }

        void endLine() {
            if (lines <= MOST_LINES) {
                from[lines] = ops;
            }
        }

        void link(int line, int to) {
            if (line < MOST_LINES && to < MOST_LINES) {
                next[line] = to;
            }
        }

        void setArgument(int line, int x) {
            if (line < MOST_LINES) {
                argument[line] = x;
            }
        }

        void addProgram(int o, int line) {
            programs++;
            if (o >= 0 && o < NUMBERS) {
                start[o] = line;
            }
        }

        /** The LINE of PROGRAM o's O; NONE without one. */
        int startOf(int o) {
            return o >= 0 && o < NUMBERS ? start[o] : NONE;
        }

        boolean isLine(int line) {
            return line >= 0 && line < lines && line < MOST_LINES;
        }

        boolean isTooLong() {
            return tokens > MOST_TOKENS || lines > MOST_LINES || programs > MOST_PROGRAMS;
        }

        int extent(int what) {
            return what == 0 ? tokens : what == 1 ? lines : programs;
        }
    }

    /** The grammar of the text. */
    private static final class Parser {
        static final int MOST_OPEN = 10;
        static final int MOST_SIGNS = 20;
        static final int LETTER_O = 15;
        static final int LEVEL_E = 0;
        static final int LEVEL_SUM = 1;
        static final int LEVEL_FACTOR = 3;
        static final int FAULT_TOKEN = 1;
        static final int FAULT_PLACE = 2;
        static final int FAULT_DEPTH = 3;
        static final int FAULT_LENGTH = 4;
        // How many Es a LINE has, by its kind.
        private static final int[] LINE_ES = {1, 0, 1, 0, 0, 0, 0, 0, 0, 0, 1, 1, 2, 1, 3, 5, 3, 3, 2, 2};

        private final Scanner scanner;
        private final Code code;
        private final int[] openKind = new int[MOST_OPEN];
        private final int[] openFirst = new int[MOST_OPEN];
        private final int[] openPart = new int[MOST_OPEN];
        private int open;
        int fault;

        Parser(byte[] tape, Code code) {
            scanner = new Scanner(tape);
            this.code = code;
        }

        void begin(int bytes) {
            code.clear();
            open = 0;
            fault = 0;
            scanner.begin(bytes);
        }

        /** The fault of a text without another one: it is too long; else 0. */
        int excess() {
            code.tokens = scanner.tokens;
            return code.isTooLong() ? FAULT_LENGTH : 0;
        }

        private void fail(int kind) {
            fault = (scanner.kind == Scanner.BAD ? FAULT_TOKEN : kind) + 16 * scanner.row;
            throw new IllegalStateException("a fault of the text");
        }

        private void expect(boolean stands) {
            if (!stands) {
                fail(FAULT_PLACE);
            }
        }

        private void takeSign(char sign) {
            expect(scanner.isSign(sign));
            scanner.advance();
        }

        /** The whole text. Throws at its first fault. */
        void takeLines() {
            for (int n = 0; n <= TAPE_BYTES && scanner.kind != Scanner.TEXT_END; n++) {
                int letter = scanner.letter();
                if (letter == LETTER_O) {
                    takeProgram();
                } else if (scanner.kind != Scanner.ROW_END) {
                    expect(code.programs > 0);
                    if (scanner.isSign('#')) {
                        takeAssignment();
                    } else if (isMotionLetter(letter)) {
                        code.addLine(LINE_MOTION, scanner.row);
                        takeLetters(true);
                    } else {
                        takeWordLine(scanner.wordIn(LINE_WORDS));
                    }
                }
                expect(scanner.atRowEnd());
                code.endLine();
                if (scanner.kind == Scanner.ROW_END) {
                    scanner.advance();
                }
            }
            expect(open == 0 && code.programs > 0);
        }

        private void takeProgram() {
            expect(open == 0);
            scanner.advance();
            int o = scanner.programNumber();
            expect(o >= 0 && code.startOf(o) < 0);
            code.addProgram(o, code.addLine(LINE_PROGRAM, scanner.row));
            scanner.advance();
        }

        private void takeAssignment() {
            code.addLine(LINE_ASSIGN, scanner.row);
            scanner.advance();
            takeE(LEVEL_FACTOR, 1);
            takeSign('=');
            takeE(LEVEL_E, 0);
        }

        private void takeWordLine(int kind) {
            expect(kind >= 0 && kind < LINE_ES.length);
            int line = code.addLine(kind, scanner.row);
            takeBlockPart(kind, line);
            scanner.advance();
            if (kind == LINE_ON) {
                int alarm = scanner.wordIn(ALARM_WORDS) + 1;
                expect(alarm > 0);
                code.setArgument(line, alarm);
                scanner.advance();
            } else if (kind == LINE_CALL) {
                int o = scanner.programNumber();
                expect(o >= 0);
                code.setArgument(line, o);
                scanner.advance();
                takeLetters(false);
            } else if (LINE_ES[kind] > 0) {
                takeE(LEVEL_E, 0);
                for (int n = 1; n < LINE_ES[kind]; n++) {
                    takeSign(',');
                    takeE(LEVEL_E, 0);
                }
            }
        }

        private void takeBlockPart(int kind, int line) {
            switch (kind) {
                case LINE_IF:
                case LINE_WHILE:
                case LINE_TRY:
                case LINE_GUARD:
                    beginBlock(kind, line);
                    break;
                case LINE_ELSE:
                    expect(openPartIs(LINE_IF));
                    nextPart(kind, line);
                    break;
                case LINE_ON:
                case LINE_LAST:
                    expect(openPartIs(LINE_TRY) || openPartIs(LINE_ON));
                    nextPart(kind, line);
                    break;
                case LINE_END:
                    expect(open > 0);
                    nextPart(kind, line);
                    code.link(line, openFirst[open - 1]);
                    open--;
                    break;
                default:
                    break;
            }
        }

        private void beginBlock(int kind, int line) {
            if (open >= MOST_OPEN) {
                fail(FAULT_DEPTH);
                return;
            }
            openKind[open] = kind;
            openFirst[open] = line;
            openPart[open] = line;
            open++;
        }

        private boolean openPartIs(int kind) {
            return open > 0 && openKind[open - 1] == kind;
        }

        private void nextPart(int kind, int line) {
            if (open > 0) {
                code.link(openPart[open - 1], line);
                openKind[open - 1] = kind;
                openPart[open - 1] = line;
            }
        }

        private void takeLetters(boolean motion) {
            int seen = 0;
            for (int n = 0; n <= LETTERS && !scanner.atRowEnd(); n++) {
                int letter = scanner.letter();
                expect(motion ? isMotionLetter(letter) : letter > 0 && letter != LETTER_O);
                expect((seen >> letter & 1) == 0);
                seen |= 1 << letter;
                scanner.advance();
                takeE(LEVEL_FACTOR, 0);
                code.emit(OP_TELL + letter, 0);
            }
        }

        /** Level 0 an E, 1 a SUM, 2 a TERM, 3 a FACTOR; the depth is how many of [ - # stand round it. */
        private void takeE(int level, int depth) {
            if (level >= LEVEL_FACTOR) {
                if (scanner.kind == Scanner.WORD) {
                    takeWordFactor(depth);
                } else {
                    takeFactor(depth);
                }
                return;
            }
            takeE(level + 1, depth);
            int most = level == LEVEL_E ? 1 : TAPE_BYTES;
            int op = operator(level);
            for (int n = 0; n < most && op != NONE; n++) {
                scanner.advance();
                takeE(level + 1, depth);
                code.emit(op, 0);
                op = operator(level);
            }
        }

        /** What the TOKEN at hand does between two of the next level; NONE, if it isn't such a one. */
        private int operator(int level) {
            if (level == LEVEL_E) {
                int compare = scanner.wordIn(COMPARE_WORDS);
                return compare == NONE ? NONE : OP_COMPARE + compare;
            }
            if (level == LEVEL_SUM) {
                return scanner.isSign('+') ? OP_ADD : scanner.isSign('-') ? OP_SUBTRACT : NONE;
            }
            return scanner.isSign('*') ? OP_MULTIPLY : scanner.isSign('/') ? OP_DIVIDE : NONE;
        }

        private void takeFactor(int depth) {
            if (scanner.kind == Scanner.NUMBER) {
                code.emit(OP_NUMBER, scanner.number());
                scanner.advance();
            } else if (scanner.isSign('[')) {
                deepen(depth);
                takeE(LEVEL_E, depth + 1);
                takeSign(']');
            } else {
                boolean minus = scanner.isSign('-');
                expect(minus || scanner.isSign('#'));
                deepen(depth);
                takeE(LEVEL_FACTOR, depth + 1);
                code.emit(minus ? OP_NEGATE : OP_PARAMETER, 0);
            }
        }

        private void takeWordFactor(int depth) {
            int atom = scanner.wordIn(ATOM_WORDS);
            int function = atom >= 0 ? NONE : scanner.wordIn(FUNCTION_WORDS);
            expect(atom >= 0 || function >= 0);
            scanner.advance();
            if (atom >= 0) {
                code.emit(OP_VACANT + atom, 0);
                return;
            }
            expect(scanner.isSign('['));
            deepen(depth);
            takeE(LEVEL_E, depth + 1);
            for (int n = 1; n < operands(function); n++) {
                takeSign(',');
                takeE(LEVEL_E, depth + 1);
            }
            takeSign(']');
            code.emit(OP_FUNCTION + function, 0);
        }

        private void deepen(int depth) {
            if (depth >= MOST_SIGNS) {
                fail(FAULT_DEPTH);
            }
            scanner.advance();
        }

        private static int operands(int function) {
            return function < FUNCTION_MIN ? 1 : function < FUNCTION_MID ? 2 : 3;
        }

        private static boolean isMotionLetter(int letter) {
            return letter > 0 && MOTION_LETTERS.indexOf((char) ('A' + letter - 1)) >= 0;
        }
    }

    /** A TOOL. */
    private static final class Tool {
        static final int TOOL = 0;
        static final int MILL = 1;
        static final int BALL = 2;
        static final int DRILL = 3;
        static final int TAP = 4;

        final int sort;
        final int number;
        short uses;
        float wear;

        Tool(int sort, int number) {
            this.sort = sort;
            this.number = number;
        }

        static boolean isA(int sort, int k) {
            return k == TOOL || sort == k || sort == BALL && k == MILL || sort == TAP && k == DRILL;
        }
    }

    /** A RACK. */
    private static final class Rack {
        final int sort;
        final Tool[] pockets;

        Rack(int sort, int size) {
            this.sort = sort;
            pockets = new Tool[size < 0 ? 0 : size];
        }

        boolean has(int p) {
            return p >= 0 && p < pockets.length;
        }
    }

    /** BANKS, RACKS and the TOOL held. What is done answers its alarm, 0 without one. */
    private static final class Store {
        static final int MOST_MADE = 100000;
        static final int MOST_TOOLS = 5000;
        static final int TRUTHS = 0;
        static final int BYTES = 1;
        static final int CHARS = 2;
        static final int SHORTS = 3;
        static final int INTS = 4;
        static final int LONGS = 5;
        static final int FLOATS = 6;

        // Whole numbers as they are; of floats and doubles the bits of the double.
        private final long[][] rows = new long[BANKS][];
        private final Rack[] racks = new Rack[RACKS];
        Tool held;
        int made;
        int tools;

        void clear() {
            for (int b = 0; b < BANKS; b++) {
                rows[b] = null;
            }
            for (int r = 0; r < RACKS; r++) {
                racks[r] = null;
            }
            held = null;
        }

        private static boolean isBank(int b) {
            return b >= 0 && b < BANKS;
        }

        private static boolean isSort(int k) {
            return k >= 0 && k < SORTS;
        }

        private static boolean isRack(int r) {
            return r >= 0 && r < RACKS;
        }

        Rack rackAt(int r) {
            return isRack(r) ? racks[r] : null;
        }

        private long[] rowAt(int b) {
            return isBank(b) ? rows[b] : null;
        }

        int cells(int b) {
            long[] row = rowAt(b);
            return row == null ? NONE : row.length;
        }

        long content(int b, int i) {
            long[] row = rowAt(b);
            if (row == null || i < 0 || i >= row.length) {
                return 0;
            }
            return b == FLOATS ? Reals.floatBits(row[i]) : row[i];
        }

        int missingRow(int b) {
            if (!isBank(b)) {
                return ALARM_PLACE;
            }
            return rows[b] == null ? ALARM_NONE : 0;
        }

        int missingCell(int b, int i) {
            int alarm = missingRow(b);
            return alarm != 0 || i >= 0 && i < cells(b) ? alarm : ALARM_PLACE;
        }

        private boolean isFull(int n) {
            return made + 1L + n > MOST_MADE;
        }

        int fit(int b, int n) {
            if (!isBank(b)) {
                return ALARM_PLACE;
            }
            if (n < 0) {
                return ALARM_SIZE;
            }
            if (isFull(n)) {
                return END_FULL;
            }
            rows[b] = new long[n];
            made += n + 1;
            return 0;
        }

        int drop(int b) {
            if (!isBank(b)) {
                return ALARM_PLACE;
            }
            rows[b] = null;
            return 0;
        }

        int put(int b, int i, Reals from, int place) {
            int alarm = missingCell(b, i);
            long[] row = rowAt(b);
            if (alarm == 0 && row != null && from.has(place)) {
                row[i] = packed(b, from.value[place], from.filled[place]);
            }
            return alarm;
        }

        private static long packed(int b, double x, boolean filled) {
            switch (b) {
                case TRUTHS:
                    return !filled || x != 0 ? 1 : 0;
                case BYTES:
                    return (byte) (int) x;
                case CHARS:
                    return (char) (int) x;
                case SHORTS:
                    return (short) (int) x;
                case INTS:
                    return (int) x;
                case LONGS:
                    return (long) x;
                case FLOATS:
                    return Reals.bitsOf((double) (float) x);
                default:
                    return filled ? Reals.bitsOf(x) : Reals.VACANT_BITS;
            }
        }

        /** Cell i of BANK b as a REAL into the place; behind missingCell. */
        void fetch(int b, int i, Reals into, int place) {
            long[] row = rowAt(b);
            if (row == null || i < 0 || i >= row.length) {
                into.setVacant(place);
            } else if (b >= FLOATS) {
                into.setBits(place, row[i]);
            } else {
                into.set(place, (double) row[i]);
            }
        }

        int move(int b, int i, int c, int j, int n) {
            if (!isBank(b) || !isBank(c)) {
                return ALARM_PLACE;
            }
            long[] row = rows[b];
            if (row == null || rows[c] == null) {
                return ALARM_NONE;
            }
            // Each BANK has a sort of its own.
            if (b != c) {
                return ALARM_STORE;
            }
            if (i < 0 || j < 0 || n < 0 || n > row.length || i > row.length - n || j > row.length - n) {
                return ALARM_PLACE;
            }
            System.arraycopy(row, i, row, j, n);
            return 0;
        }

        int rack(int r, int k, int n) {
            if (!isRack(r) || !isSort(k)) {
                return ALARM_PLACE;
            }
            if (n < 0) {
                return ALARM_SIZE;
            }
            if (isFull(n)) {
                return END_FULL;
            }
            racks[r] = new Rack(k, n);
            made += n + 1;
            return 0;
        }

        int load(int r, int p, int k) {
            if (!isRack(r) || !isSort(k)) {
                return ALARM_PLACE;
            }
            Rack rack = racks[r];
            if (rack == null) {
                return ALARM_NONE;
            }
            if (!rack.has(p)) {
                return ALARM_PLACE;
            }
            if (!Tool.isA(k, rack.sort)) {
                return ALARM_STORE;
            }
            if (tools >= MOST_TOOLS) {
                return END_FULL;
            }
            tools++;
            rack.pockets[p] = new Tool(k, tools);
            return 0;
        }

        int take(int r, int p) {
            if (!isRack(r)) {
                return ALARM_PLACE;
            }
            Rack rack = racks[r];
            if (rack == null) {
                return ALARM_NONE;
            }
            if (!rack.has(p)) {
                return ALARM_PLACE;
            }
            if (rack.pockets[p] == null) {
                return ALARM_NONE;
            }
            held = rack.pockets[p];
            rack.pockets[p] = null;
            return 0;
        }

        int giveBack(int r, int p) {
            if (!isRack(r)) {
                return ALARM_PLACE;
            }
            Rack rack = racks[r];
            Tool tool = held;
            if (rack == null || tool == null) {
                return ALARM_NONE;
            }
            if (!rack.has(p)) {
                return ALARM_PLACE;
            }
            if (!Tool.isA(tool.sort, rack.sort)) {
                return ALARM_STORE;
            }
            rack.pockets[p] = tool;
            held = null;
            return 0;
        }
    }

    /** The SEGMENTS of a run, and its PLAN. */
    private static final class Path {
        static final int MOST = 400;

        private final double[] length = new double[MOST];
        private final double[] speed = new double[MOST];
        private final double[] dx = new double[MOST];
        private final double[] dy = new double[MOST];
        private final double[] dz = new double[MOST];
        private final double[] time = new double[MOST];
        private final boolean[] dwell = new boolean[MOST];
        // The SEGMENTS but dwells, by their order, and the speeds ahead of each.
        private final int[] moving = new int[MOST];
        private final int[] order = new int[MOST];
        private final double[] joint = new double[MOST + 1];
        private double whole;
        private boolean planned;
        int kept;
        int all;

        void clear() {
            kept = 0;
            all = 0;
            whole = 0;
            planned = false;
        }

        void add(double l, double v, double x, double y, double z) {
            all++;
            if (kept < MOST) {
                length[kept] = l;
                speed[kept] = v;
                dx[kept] = x;
                dy[kept] = y;
                dz[kept] = z;
                time[kept] = 0;
                dwell[kept] = false;
                kept++;
            }
        }

        void addDwell(double thousandths) {
            int place = kept;
            add(0, 0, 0, 0, 0);
            if (place < kept) {
                time[place] = thousandths / 1000;
                dwell[place] = true;
            }
        }

        void plan() {
            int n = 0;
            for (int i = 0; i < kept && i < MOST; i++) {
                if (!dwell[i]) {
                    moving[n] = i;
                    order[i] = n;
                    n++;
                }
            }
            joint[0] = 0;
            joint[n] = 0;
            for (int k = 1; k < n; k++) {
                joint[k] = corner(moving[k - 1], moving[k]);
            }
            for (int k = n - 1; k >= 0; k--) {
                joint[k] = Reals.lesser(joint[k], reach(joint[k + 1], moving[k]));
            }
            for (int k = 0; k < n; k++) {
                joint[k + 1] = Reals.lesser(joint[k + 1], reach(joint[k], moving[k]));
            }
            for (int k = 0; k < n; k++) {
                time[moving[k]] = duration(moving[k], joint[k], joint[k + 1]);
            }
            whole = 0;
            for (int i = 0; i < kept && i < MOST; i++) {
                whole = whole + time[i];
            }
            planned = true;
        }

        private double corner(int i, int j) {
            double v = Reals.lesser(speed[i], speed[j]);
            double lengths = length[i] * length[j];
            if (lengths == 0) {
                return 0;
            }
            double c = (dx[i] * dx[j] + dy[i] * dy[j] + dz[i] * dz[j]) / lengths;
            double share = (1 + c) / 2;
            return v * Reals.lesser(1, Reals.greater(0, share));
        }

        private double reach(double from, int i) {
            return Reals.root(from * from + 2.0 * 500.0 * length[i]);
        }

        private double duration(int i, double a, double b) {
            double l = length[i];
            double p = Reals.lesser(speed[i], Reals.root((a * a + b * b) / 2 + 500.0 * l));
            if (p == 0) {
                return 0;
            }
            return (p - a) / 500.0 + (p - b) / 500.0
                + (l - (2 * p * p - a * a - b * b) / (2.0 * 500.0)) / p;
        }

        long wholeBits() {
            return planned ? Reals.bitsOf(whole) : Reals.VACANT_BITS;
        }

        long bitsAt(int i, int what) {
            if (i < 0 || i >= kept || i >= MOST) {
                return Reals.VACANT_BITS;
            }
            switch (what) {
                case 0:
                    return Reals.bitsOf(length[i]);
                case 1:
                    return Reals.bitsOf(speed[i]);
                case 2:
                    return Reals.bitsOf(dx[i]);
                case 3:
                    return Reals.bitsOf(dy[i]);
                case 4:
                    return Reals.bitsOf(dz[i]);
                case 5:
                    return dwell[i] ? Reals.VACANT_BITS : Reals.bitsOf(joint[order[i]]);
                case 6:
                    return Reals.bitsOf(time[i]);
                default:
                    return Reals.VACANT_BITS;
            }
        }
    }

    /** MODES, positions and OFFSETS, and the MOTIONS that change them. */
    private static final class Mill {
        static final int LETTER_F = 6;
        static final int LETTER_G = 7;
        static final int LETTER_M = 13;
        static final int LETTER_P = 16;
        static final int LETTER_S = 19;
        static final int LETTER_X = 24;
        static final int LETTER_Z = 26;
        static final int AXES = 3;
        static final int AXIS_Z = 2;
        static final int MOTION = 0;
        static final int ABSOLUTE = 1;
        static final int OFFSET = 2;
        static final int SPINDLE = 3;
        static final int COOLANT = 4;
        static final int MODES = 5;
        static final int F = 0;
        static final int S = 1;
        static final int SPEEDS = 2;

        private final Store store;
        private final Path path;
        final int[] mode = new int[MODES];
        final double[] speeds = new double[SPEEDS];
        final double[] position = new double[AXES];
        final double[] offsets = new double[12];
        private final double[] target = new double[AXES];
        private final double[] home = new double[AXES];
        private final int[] guardedMode = new int[Runner.MOST_MARKS * MODES];
        private final double[] guardedSpeeds = new double[Runner.MOST_MARKS * SPEEDS];
        private final Reals letters;
        private int letterBits;

        Mill(Store store, Path path, Reals letters) {
            this.store = store;
            this.path = path;
            this.letters = letters;
        }

        void clear() {
            for (int i = 0; i < MODES; i++) {
                mode[i] = i == ABSOLUTE ? 1 : 0;
            }
            speeds[F] = 0;
            speeds[S] = 0;
            for (int i = 0; i < AXES; i++) {
                position[i] = 0;
            }
            for (int i = 0; i < offsets.length; i++) {
                offsets[i] = 0;
            }
        }

        void guard(int mark) {
            if (mark >= 0 && mark < Runner.MOST_MARKS) {
                System.arraycopy(mode, 0, guardedMode, mark * MODES, MODES);
                System.arraycopy(speeds, 0, guardedSpeeds, mark * SPEEDS, SPEEDS);
            }
        }

        void restore(int mark) {
            if (mark >= 0 && mark < Runner.MOST_MARKS) {
                System.arraycopy(guardedMode, mark * MODES, mode, 0, MODES);
                System.arraycopy(guardedSpeeds, mark * SPEEDS, speeds, 0, SPEEDS);
            }
        }

        /** What the TOOL held wants; 0 without one. */
        double wantedFeed() {
            Tool tool = store.held;
            double s = speeds[S];
            if (tool == null) {
                return 0;
            }
            switch (tool.sort) {
                case Tool.MILL:
                    return s * 0.25;
                case Tool.BALL:
                    return s * 0.25 / 2;
                case Tool.DRILL:
                    return s * 0.5;
                case Tool.TAP:
                    return s * 1.5 + 0.5;
                default:
                    return s * 0.125;
            }
        }

        private boolean has(int letter) {
            return (letterBits >> letter & 1) == 1;
        }

        private int whole(int letter) {
            return has(letter) ? (int) letters.value[letter] : NONE;
        }

        /** A MOTION of these LETTERS (a bit each); its alarm, 0 without one. */
        int motion(int told) {
            letterBits = told;
            for (int letter = 1; letter <= LETTERS; letter++) {
                if (has(letter) && !letters.filled[letter]) {
                    return ALARM_VACANT;
                }
            }
            int g = whole(LETTER_G);
            int m = whole(LETTER_M);
            int alarm = refusal(g, m);
            if (alarm != 0) {
                return alarm;
            }
            setByG(g);
            setByM(m);
            setSpeeds();
            switch (g) {
                case 4:
                    return dwell();
                case 92:
                    setOffset();
                    return 0;
                case 81:
                    return drill(Tool.DRILL);
                case 84:
                    return drill(Tool.TAP);
                default:
                    return travel();
            }
        }

        private int refusal(int g, int m) {
            boolean knownG = g == 0 || g == 1 || g == 4 || g >= 54 && g <= 57
                || g == 81 || g == 84 || g >= 90 && g <= 92;
            boolean knownM = m == 3 || m == 5 || m == 8 || m == 9;
            if (has(LETTER_G) && !knownG || has(LETTER_M) && !knownM) {
                return ALARM_LACK;
            }
            return isSpeed(LETTER_F) && isSpeed(LETTER_S) ? 0 : ALARM_LIMIT;
        }

        private boolean isSpeed(int letter) {
            return !has(letter) || letters.value[letter] >= 0 && letters.value[letter] <= 1000000;
        }

        private void setByG(int g) {
            if (g == 0 || g == 1) {
                mode[MOTION] = g;
            } else if (g >= 54 && g <= 57) {
                mode[OFFSET] = g - 54;
            } else if (g == 90 || g == 91) {
                mode[ABSOLUTE] = 91 - g;
            }
        }

        private void setByM(int m) {
            if (m == 3 || m == 5) {
                mode[SPINDLE] = m == 3 ? 1 : 0;
            } else if (m == 8 || m == 9) {
                mode[COOLANT] = 9 - m;
            }
        }

        private void setSpeeds() {
            if (has(LETTER_F)) {
                speeds[F] = letters.value[LETTER_F];
            }
            if (has(LETTER_S)) {
                speeds[S] = letters.value[LETTER_S];
            }
        }

        private int dwell() {
            if (!has(LETTER_P)) {
                return ALARM_LACK;
            }
            if (letters.value[LETTER_P] < 0) {
                return ALARM_LIMIT;
            }
            path.addDwell(letters.value[LETTER_P]);
            return 0;
        }

        private int offsetPlace(int axis) {
            return Math.floorMod(mode[OFFSET], 4) * AXES + axis;
        }

        private void setOffset() {
            for (int axis = 0; axis < AXES; axis++) {
                if (has(LETTER_X + axis)) {
                    offsets[offsetPlace(axis)] = letters.value[LETTER_X + axis];
                }
            }
        }

        private int drill(int sort) {
            Tool tool = store.held;
            if (tool == null) {
                return ALARM_NONE;
            }
            if (!Tool.isA(tool.sort, sort)) {
                return ALARM_KIND;
            }
            if (!has(LETTER_Z) || mode[SPINDLE] == 0) {
                return ALARM_LACK;
            }
            if (!aim(AXIS_Z)) {
                return ALARM_LIMIT;
            }
            double feed = wantedFeed();
            if (feed <= 0) {
                return ALARM_LACK;
            }
            System.arraycopy(position, 0, home, 0, AXES);
            goTo(target, feed);
            goTo(home, feed);
            tool.uses++;
            return 0;
        }

        private int travel() {
            if (!has(LETTER_X) && !has(LETTER_X + 1) && !has(LETTER_Z)) {
                return 0;
            }
            boolean cutting = mode[MOTION] == 1;
            if (cutting && speeds[F] == 0) {
                return ALARM_LACK;
            }
            if (!aim(0)) {
                return ALARM_LIMIT;
            }
            double l = goTo(target, cutting ? speeds[F] : 6000);
            Tool tool = store.held;
            if (cutting && mode[SPINDLE] == 1 && tool != null) {
                tool.wear = tool.wear + (float) l * 0.001953125f;
            }
            return 0;
        }

        /** Sets the TARGET by the LETTERS from this axis on; false if it is beyond the LIMIT. */
        private boolean aim(int first) {
            for (int axis = 0; axis < AXES; axis++) {
                double x = position[axis];
                if (axis >= first && has(LETTER_X + axis)) {
                    double by = letters.value[LETTER_X + axis];
                    double base = mode[ABSOLUTE] == 1 ? offsets[offsetPlace(axis)] : x;
                    // Two infinite ones could make a NaN, and all are beyond.
                    if (Reals.isInfinite(by) || Reals.isInfinite(base)) {
                        return false;
                    }
                    x = by + base;
                }
                if (x < -1000 || x > 1000) {
                    return false;
                }
                target[axis] = x;
            }
            return true;
        }

        /** The length of the way. */
        private double goTo(double[] place, double v) {
            double x = place[0] - position[0];
            double y = place[1] - position[1];
            double z = place[AXIS_Z] - position[AXIS_Z];
            double l = Reals.root(x * x + y * y + z * z);
            System.arraycopy(place, 0, position, 0, AXES);
            if (l != 0) {
                path.add(l, v, x, y, z);
            }
            return l;
        }
    }

    /** Works out Es on a stack of REALS. */
    private static final class Evaluator {
        static final int FRAMES = 16;
        static final int FRAME = LETTERS + 1;
        static final int DEEPEST = 256;

        private final Code code;
        private final Store store;
        private final Mill mill;
        final Reals common = new Reals(COMMON);
        // PARAMETERS 1 .. 26 of each PROGRAM that is open, run()'s first.
        final Reals frames = new Reals(FRAMES * FRAME);
        final Reals stack = new Reals(DEEPEST);
        final Reals what = new Reals(1);
        private final Reals letters;
        private int frame;
        private int top;
        private int alarm;
        int letterBits;
        int why;

        Evaluator(Code code, Store store, Mill mill, Reals letters) {
            this.code = code;
            this.store = store;
            this.mill = mill;
            this.letters = letters;
        }

        void clear() {
            common.clear();
            frames.clear();
            forget();
        }

        void forget() {
            why = 0;
            what.clear();
        }

        /** PARAMETERS of the PROGRAM that is the depth-th one open, from the LETTERS worked out last. */
        void enter(int depth) {
            resume(depth);
            for (int letter = 1; letter <= LETTERS; letter++) {
                if ((letterBits >> letter & 1) == 1) {
                    frames.copy(frame + letter, letters, letter);
                } else {
                    frames.setVacant(frame + letter);
                }
            }
        }

        void resume(int depth) {
            frame = (depth - 1) * FRAME;
        }

        /** Leaves the Es' VALUES on the stack, from 0 on; the alarm that was met, 0 without one. */
        int work(int from, int to) {
            top = 0;
            letterBits = 0;
            alarm = 0;
            for (int i = from; i < to && i < Code.MOST_TOKENS && alarm == 0; i++) {
                int op = code.op[i];
                if (op == OP_NUMBER) {
                    push(code.number[i]);
                } else if (op >= OP_TELL) {
                    tell(op - OP_TELL);
                } else if (op >= OP_VACANT && op < OP_FUNCTION) {
                    atom(op);
                } else if (top < operands(op)) {
                    return ALARM_LACK;
                } else if (op == OP_PARAMETER) {
                    fetchParameter();
                } else if (op < OP_COMPARE) {
                    calculate(op);
                } else if (op < OP_VACANT) {
                    compare(op - OP_COMPARE);
                } else if (op < OP_FUNCTION + FUNCTION_INT) {
                    ofReal(op - OP_FUNCTION);
                } else if (op < OP_FUNCTION + FUNCTION_MIN) {
                    ofRounded(op - OP_FUNCTION);
                } else if (op < OP_FUNCTION + FUNCTION_DIV) {
                    ofTwoReals(op - OP_FUNCTION);
                } else if (op < OP_FUNCTION + FUNCTION_PORT) {
                    ofTwoInts(op - OP_FUNCTION);
                } else if (op == OP_FUNCTION + FUNCTION_PORT) {
                    fetchCell();
                } else {
                    middle();
                }
            }
            return alarm;
        }

        boolean isTrue(int place) {
            return stack.filled[place] && stack.value[place] != 0;
        }

        /** A VALUE of the stack rounded to an INT: VACANT ones keep 0. */
        int whole(int place) {
            return stack.has(place) ? (int) stack.value[place] : 0;
        }

        // The text's depth keeps the stack far below its size.
        private void push(double x) {
            if (top < DEEPEST) {
                stack.set(top, x);
                top++;
            }
        }

        private void pushVacant() {
            if (top < DEEPEST) {
                stack.setVacant(top);
                top++;
            }
        }

        private static int operands(int op) {
            if (op < OP_FUNCTION) {
                return op == OP_PARAMETER || op == OP_NEGATE ? 1 : 2;
            }
            return Parser.operands(op - OP_FUNCTION);
        }

        private void tell(int letter) {
            if (top > 0 && letters.has(letter)) {
                top--;
                letters.copy(letter, stack, top);
                letterBits |= 1 << letter;
            }
        }

        private void atom(int op) {
            if (op == OP_WHY) {
                push(why);
            } else if (op == OP_FEED) {
                if (store.held == null) {
                    alarm = ALARM_NONE;
                }
                push(mill.wantedFeed());
            } else if (op == OP_WHAT && what.filled[0]) {
                push(what.value[0]);
            } else {
                pushVacant();
            }
        }

        private void fetchParameter() {
            int a = whole(top - 1);
            if (a >= 1 && a <= LETTERS) {
                stack.copy(top - 1, frames, frame + a);
            } else if (isCommon(a)) {
                stack.copy(top - 1, common, a - COMMON_FIRST);
            } else {
                alarm = ALARM_PLACE;
            }
        }

        /** PARAMETER a, the stack's first VALUE, becomes the second one. */
        int assign() {
            int a = whole(0);
            if (a >= 1 && a <= LETTERS) {
                frames.copy(frame + a, stack, 1);
            } else if (isCommon(a)) {
                common.copy(a - COMMON_FIRST, stack, 1);
            } else {
                return ALARM_PLACE;
            }
            return 0;
        }

        private void calculate(int op) {
            if (op == OP_NEGATE) {
                if (stack.filled[top - 1]) {
                    stack.set(top - 1, -stack.value[top - 1]);
                }
                return;
            }
            boolean filled = stack.filled[top - 2] && stack.filled[top - 1];
            double a = stack.value[top - 2];
            double b = stack.value[top - 1];
            top--;
            if (!filled || Reals.isUndefined(op, a, b)) {
                stack.setVacant(top - 1);
            } else {
                stack.set(top - 1, Reals.combine(op, a, b));
            }
        }

        private void compare(int how) {
            boolean filled = stack.filled[top - 2] && stack.filled[top - 1];
            boolean holds = filled
                ? Reals.compares(how, stack.value[top - 2], stack.value[top - 1])
                : how == 1;
            top--;
            stack.set(top - 1, holds ? 1 : 0);
        }

        /** ABS FIX FUP RND SQRT SGN ULP NXT: VACANT stays so. */
        private void ofReal(int f) {
            double a = stack.value[top - 1];
            if (!stack.filled[top - 1]) {
                return;
            }
            if (f == FUNCTION_SQRT && a < 0) {
                stack.setVacant(top - 1);
                return;
            }
            stack.set(top - 1, realOf(f, a));
        }

        private static double realOf(int f, double a) {
            switch (f) {
                case FUNCTION_ABS:
                    return Reals.withSign(a, false);
                case FUNCTION_FIX:
                    return Reals.floor(a);
                case FUNCTION_FUP:
                    return Reals.ceiling(a);
                case FUNCTION_RND:
                    return Reals.nearest(a);
                case FUNCTION_SQRT:
                    return Reals.root(a);
                case FUNCTION_SGN:
                    return Reals.signOf(a);
                case FUNCTION_ULP:
                    return Reals.unit(a);
                default:
                    return Reals.next(a);
            }
        }

        /** INT VAC LONG SING LEN POS HELD. */
        private void ofRounded(int f) {
            int place = top - 1;
            double a = stack.value[place];
            int k = whole(place);
            switch (f) {
                case FUNCTION_INT:
                    stack.set(place, k);
                    break;
                case FUNCTION_VAC:
                    stack.set(place, stack.filled[place] ? 0 : 1);
                    break;
                case FUNCTION_LONG:
                    stack.set(place, (double) (long) a);
                    break;
                case FUNCTION_SING:
                    stack.set(place, (double) (float) a);
                    break;
                case FUNCTION_LEN:
                    alarm = store.missingRow(k);
                    stack.set(place, store.cells(k));
                    break;
                case FUNCTION_POS:
                    fetchPosition(k);
                    break;
                default:
                    fetchHeld(k);
                    break;
            }
        }

        private void fetchPosition(int k) {
            if (k < 0 || k >= Mill.AXES) {
                alarm = ALARM_PLACE;
            } else {
                stack.set(top - 1, mill.position[k]);
            }
        }

        private void fetchHeld(int k) {
            if (k < 0 || k >= SORTS) {
                alarm = ALARM_PLACE;
                return;
            }
            Tool tool = store.held;
            stack.set(top - 1, tool != null && Tool.isA(tool.sort, k) ? 1 : 0);
        }

        /** MIN MAX CPS MOD. */
        private void ofTwoReals(int f) {
            double a = stack.value[top - 2];
            double b = stack.value[top - 1];
            boolean aFilled = stack.filled[top - 2];
            boolean bFilled = stack.filled[top - 1];
            top--;
            int place = top - 1;
            if (f == FUNCTION_CPS) {
                if (aFilled) {
                    stack.set(place, Reals.withSign(a, bFilled && Reals.isNegative(b)));
                }
            } else if (!aFilled || !bFilled) {
                stack.setVacant(place);
            } else if (f == FUNCTION_MIN) {
                stack.set(place, Reals.lesser(a, b));
            } else if (f == FUNCTION_MAX) {
                stack.set(place, Reals.greater(a, b));
            } else if (Reals.isInfinite(a) || b == 0) {
                stack.setVacant(place);
            } else {
                stack.set(place, Reals.isInfinite(b) ? a : Reals.rest(a, b));
            }
        }

        /** DIV REM AND OR XOR SHL SHR. */
        private void ofTwoInts(int f) {
            int a = whole(top - 2);
            int b = whole(top - 1);
            top--;
            if (b == 0 && f <= FUNCTION_REM) {
                alarm = ALARM_ZERO;
            } else {
                stack.set(top - 1, intOf(f, a, b));
            }
        }

        private static int intOf(int f, int a, int b) {
            switch (f) {
                case FUNCTION_DIV:
                    return b == 0 ? 0 : a / b;
                case FUNCTION_REM:
                    return b == 0 ? 0 : a % b;
                case FUNCTION_AND:
                    return a & b;
                case FUNCTION_OR:
                    return a | b;
                case FUNCTION_XOR:
                    return a ^ b;
                case FUNCTION_SHL:
                    return a << (b & 31);
                default:
                    return a >> (b & 31);
            }
        }

        private void fetchCell() {
            int b = whole(top - 2);
            int i = whole(top - 1);
            top--;
            alarm = store.missingCell(b, i);
            if (alarm == 0) {
                store.fetch(b, i, stack, top - 1);
            }
        }

        private void middle() {
            double a = stack.value[top - 3];
            double b = stack.value[top - 2];
            double c = stack.value[top - 1];
            boolean filled = stack.filled[top - 3] && stack.filled[top - 2] && stack.filled[top - 1];
            top -= 2;
            if (filled) {
                double low = Reals.lesser(a, b);
                stack.set(top - 1, Reals.greater(low, Reals.lesser(Reals.greater(a, b), c)));
            } else {
                stack.setVacant(top - 1);
            }
        }
    }

    /** Does the LINES of a run. */
    private static final class Runner {
        // Of each of 16 PROGRAMS itself and ten blocks.
        static final int MOST_MARKS = 176;
        static final int MOST_ALARMS = 3000;
        static final int MOST_OUT = 200;
        static final int MOST_TURNS = 1000000;
        static final int GOES_ON = -1;
        static final int ENDED = 0;
        static final int BY_ALARM = 1;
        static final int BY_STEPS = 2;
        static final int BY_DEEP = 3;
        static final int BY_WORN = 4;
        static final int BY_FULL = 5;
        // Besides alarms' numbers, what may be under way.
        static final int NOTHING = 0;
        static final int RETURNING = 14;

        final Code code;
        final Store store;
        final Path path;
        final Mill mill;
        final Evaluator evaluator;
        private final Reals out = new Reals(MOST_OUT);
        // A mark: a PROGRAM (LINE_CALL), a TRY's part or a GUARD that is open.
        private final int[] markKind = new int[MOST_MARKS];
        private final int[] markLine = new int[MOST_MARKS];
        // What a LAST holds up, an alarm's number or RETURNING, and the row of the text where it was met.
        private final int[] markSignal = new int[MOST_MARKS];
        private final int[] markRow = new int[MOST_MARKS];
        // What RAISED the alarm of each mark; at its end that of the alarm under way.
        private final Reals raised = new Reals(MOST_MARKS + 1);
        private final int[] tale = new int[8];
        private int marks;
        private int depth;
        private int at;
        private int end;
        private int signal;
        private int row;
        private int alarmsEver;

        Runner(Code code) {
            this.code = code;
            store = new Store();
            path = new Path();
            Reals letters = new Reals(LETTERS + 1);
            mill = new Mill(store, path, letters);
            evaluator = new Evaluator(code, store, mill, letters);
        }

        void reset() {
            store.clear();
            mill.clear();
            evaluator.clear();
            forget();
        }

        private void forget() {
            path.clear();
            evaluator.forget();
            out.clear();
            raised.clear();
            for (int i = 0; i < tale.length; i++) {
                tale[i] = 0;
            }
            marks = 0;
            depth = 0;
            signal = NOTHING;
            row = 0;
        }

        int madeSoFar(int what) {
            return what == 11 ? store.made : what == 12 ? store.tools : alarmsEver;
        }

        int tale(int what) {
            return what >= 0 && what < tale.length ? tale[what] : NONE;
        }

        long outBits(int i) {
            return i < tale[7] ? out.bitsAt(i) : Reals.VACANT_BITS;
        }

        long wentOutBits() {
            return tale[0] == ALARM_RAISED ? raised.bitsAt(MOST_MARKS) : Reals.VACANT_BITS;
        }

        int perform(int o, int steps) {
            forget();
            end = GOES_ON;
            evaluator.letterBits = 0;
            open(LINE_CALL, NONE);
            begin(code.startOf(o));
            for (int turn = 0; turn < MOST_TURNS && end == GOES_ON; turn++) {
                int kind = code.isLine(at) ? code.kind[at] : LINE_PROGRAM;
                if (signal != NOTHING) {
                    leave();
                } else if (kind == LINE_PROGRAM) {
                    signal = RETURNING;
                } else if (isStep(kind) && tale[2] >= steps) {
                    end = BY_STEPS;
                } else {
                    tale[2] += isStep(kind) ? 1 : 0;
                    int met = evaluator.work(code.from[at], code.from[at + 1]);
                    if (met == 0) {
                        met = kind <= LINE_RETURN ? guide(kind) : carryOut(kind);
                    }
                    if (met != 0) {
                        raise(met);
                    } else if (kind > LINE_RETURN) {
                        at++;
                    }
                }
            }
            tale[5] = path.all;
            tale[6] = path.kept;
            path.plan();
            return end;
        }

        private void begin(int line) {
            depth++;
            tale[4] = Math.max(tale[4], depth);
            evaluator.enter(depth);
            at = line + 1;
        }

        private static boolean isStep(int kind) {
            return kind != LINE_ELSE && kind != LINE_ON && kind != LINE_LAST && kind != LINE_END;
        }

        /** LINES that say which one is next. */
        private int guide(int kind) {
            switch (kind) {
                case LINE_IF:
                case LINE_WHILE:
                    at = evaluator.isTrue(0) ? at + 1 : code.next[at] + 1;
                    return 0;
                case LINE_ELSE:
                    at = code.next[at] + 1;
                    return 0;
                case LINE_GUARD:
                    mill.guard(marks);
                    open(kind, at);
                    at++;
                    return 0;
                case LINE_TRY:
                    open(kind, at);
                    at++;
                    return 0;
                case LINE_ON:
                case LINE_LAST:
                    endPart();
                    return 0;
                case LINE_END:
                    endBlock(code.next[at]);
                    return 0;
                case LINE_CALL:
                    return call();
                default:
                    signal = RETURNING;
                    return 0;
            }
        }

        /** All other LINES, ALARM last. */
        private int carryOut(int kind) {
            int a = evaluator.whole(0);
            int b = evaluator.whole(1);
            int c = evaluator.whole(2);
            switch (kind) {
                case LINE_ASSIGN:
                    return evaluator.assign();
                case LINE_MOTION:
                    return mill.motion(evaluator.letterBits);
                case LINE_PRINT:
                    out.copy(tale[7], evaluator.stack, 0);
                    tale[7]++;
                    return 0;
                case LINE_FIT:
                    return store.fit(a, b);
                case LINE_DROP:
                    return store.drop(a);
                case LINE_PUT:
                    return store.put(a, b, evaluator.stack, 2);
                case LINE_MOVE:
                    return store.move(a, b, c, evaluator.whole(3), evaluator.whole(4));
                case LINE_RACK:
                    return store.rack(a, b, c);
                case LINE_LOAD:
                    return store.load(a, b, c);
                case LINE_TAKE:
                    return store.take(a, b);
                case LINE_BACK:
                    return store.giveBack(a, b);
                default:
                    return ALARM_RAISED;
            }
        }

        private int call() {
            int line = code.startOf(code.argument[at]);
            if (line < 0) {
                return ALARM_LACK;
            }
            if (depth >= Evaluator.FRAMES) {
                return END_DEEP;
            }
            open(LINE_CALL, at + 1);
            begin(line);
            return 0;
        }

        private void open(int kind, int line) {
            if (marks < MOST_MARKS) {
                markKind[marks] = kind;
                markLine[marks] = line;
                markSignal[marks] = NOTHING;
                marks++;
            }
        }

        private void raise(int met) {
            if (met == END_DEEP) {
                end = BY_DEEP;
            } else if (met == END_FULL) {
                end = BY_FULL;
            } else if (alarmsEver >= MOST_ALARMS) {
                end = BY_WORN;
            } else {
                alarmsEver++;
                tale[3]++;
                signal = met;
                row = code.row[at];
                if (met == ALARM_RAISED) {
                    raised.copy(MOST_MARKS, evaluator.stack, 0);
                } else {
                    raised.setVacant(MOST_MARKS);
                }
            }
        }

        /** What is under way leaves what is open, up to what takes it or holds it up. */
        private void leave() {
            for (int n = 0; n < MOST_MARKS && marks > 0; n++) {
                int mark = marks - 1;
                int kind = markKind[mark];
                if (kind == LINE_TRY && isTaken(mark)) {
                    return;
                }
                if ((kind == LINE_TRY || kind == LINE_ON) && beginLast(mark)) {
                    return;
                }
                close(mark);
                if (kind == LINE_CALL && signal == RETURNING) {
                    signal = NOTHING;
                    at = markLine[mark];
                    end = marks == 0 ? ENDED : end;
                    return;
                }
            }
            end = BY_ALARM;
            tale[0] = signal;
            tale[1] = row;
        }

        private void close(int mark) {
            marks = mark;
            if (markKind[mark] == LINE_GUARD) {
                mill.restore(mark);
            } else if (markKind[mark] == LINE_CALL) {
                depth--;
                evaluator.resume(Math.max(depth, 1));
            }
        }

        private boolean isTaken(int mark) {
            int part = nextPart(markLine[mark]);
            for (int n = 0; n < Code.MOST_LINES && signal != RETURNING && code.kind[part] == LINE_ON; n++) {
                if (code.argument[part] == signal || code.argument[part] == ALARM_ANY) {
                    markKind[mark] = LINE_ON;
                    evaluator.why = signal;
                    evaluator.what.copy(0, raised, MOST_MARKS);
                    signal = NOTHING;
                    at = part + 1;
                    return true;
                }
                part = nextPart(part);
            }
            return false;
        }

        private int nextPart(int line) {
            return code.isLine(line) ? code.next[line] : 0;
        }

        /** The LAST of a TRY, or its END, if it has none. */
        private int lastOrEnd(int line) {
            int part = nextPart(line);
            for (int n = 0; n < Code.MOST_LINES && code.kind[part] == LINE_ON; n++) {
                part = nextPart(part);
            }
            return part;
        }

        /** LAST's LINES hold up what is under way, or nothing; false, if there is no LAST. */
        private boolean beginLast(int mark) {
            int last = lastOrEnd(markLine[mark]);
            if (code.kind[last] != LINE_LAST) {
                return false;
            }
            markKind[mark] = LINE_LAST;
            markSignal[mark] = signal;
            markRow[mark] = row;
            raised.copy(mark, raised, MOST_MARKS);
            signal = NOTHING;
            at = last + 1;
            return true;
        }

        /** The end of a TRY's or an ON's LINES. */
        private void endPart() {
            int mark = marks - 1;
            if (mark < 0) {
                at++;
            } else if (!beginLast(mark)) {
                at = lastOrEnd(markLine[mark]) + 1;
                close(mark);
            }
        }

        private void endBlock(int first) {
            int mark = marks - 1;
            int kind = code.kind[first];
            at = kind == LINE_WHILE ? first : at + 1;
            if ((kind == LINE_TRY || kind == LINE_GUARD) && mark >= 0) {
                close(mark);
                goOn(mark);
            }
        }

        /** What a LAST has held up goes on behind it. */
        private void goOn(int mark) {
            if (markSignal[mark] != NOTHING) {
                signal = markSignal[mark];
                row = markRow[mark];
                raised.copy(MOST_MARKS, raised, mark);
            }
        }
    }
}
