import java.util.ArrayList;
import java.util.Arrays;
import java.util.HashMap;
import java.util.HashSet;
import java.util.List;
import java.util.Map;
import java.util.Set;

/**
 * The document once more, as a tree that is walked, with Java's own NaN, Math and exceptions:
 * what it answers is compared with MillCell's answers on many texts.
 */
final class ReferenceCell {
    static final long VACANT = 0x7ff8000000000000L;

    static final class Fault extends RuntimeException {
        final int code;

        Fault(int kind, int line) {
            super(null, null, false, false);
            code = kind + 16 * line;
        }
    }

    static final class Alarm extends RuntimeException {
        final int number;
        double what = Double.NaN;
        int line;

        Alarm(int number) {
            super(null, null, false, false);
            this.number = number;
        }
    }

    static final class Return extends RuntimeException {
        Return() {
            super(null, null, false, false);
        }
    }

    static final class End extends RuntimeException {
        final int how;

        End(int how) {
            super(null, null, false, false);
            this.how = how;
        }
    }

    // ---------------------------------------------------------------- the text

    static final class Token {
        String text;
        int line;
        char type; // w word, n number, s sign, e line's end, z text's end, b none
    }

    static final class Node {
        String op;
        double number;
        List<Node> parts = new ArrayList<>();
    }

    static final class Line {
        String word;
        int line;
        int number;
        String kind;
        List<Node> es = new ArrayList<>();
        List<Character> letters = new ArrayList<>();
        List<Line> body = new ArrayList<>();
        List<Line> otherwise;
        List<Line> ons = new ArrayList<>();
        List<Line> last;
    }

    static final Map<String, Integer> FUNCTIONS = new HashMap<>();
    static final List<String> KINDS = Arrays.asList("", "NONE", "PLACE", "SIZE", "KIND", "STORE", "ZERO", "VACANT",
        "LIMIT", "LACK", "RAISED", "ANY");
    static final Map<String, Integer> PLAIN = new HashMap<>();

    static {
        for (String f : "ABS FIX FUP RND SQRT SGN ULP NXT INT VAC LEN POS LONG SING HELD".split(" ")) {
            FUNCTIONS.put(f, 1);
        }
        for (String f : "MIN MAX CPS MOD DIV REM AND OR XOR SHL SHR PORT".split(" ")) {
            FUNCTIONS.put(f, 2);
        }
        FUNCTIONS.put("MID", 3);
        String[] plain = {"ALARM 1", "PRINT 1", "FIT 2", "DROP 1", "PUT 3", "MOVE 5", "RACK 3", "LOAD 3", "TAKE 2",
            "BACK 2", "RETURN 0"};
        for (String p : plain) {
            PLAIN.put(p.split(" ")[0], Integer.parseInt(p.split(" ")[1]));
        }
    }

    static List<Token> tokens(String text) {
        List<Token> all = new ArrayList<>();
        int line = 1;
        int at = 0;
        while (at < text.length()) {
            char c = text.charAt(at);
            if (c == ' ') {
                at++;
                continue;
            }
            if (c == '(') {
                int close = text.indexOf(')', at);
                int feed = text.indexOf('\n', at);
                if (close >= 0 && (feed < 0 || close < feed)) {
                    at = close + 1;
                    continue;
                }
            }
            Token t = new Token();
            t.line = line;
            all.add(t);
            int end = at + 1;
            if (c == '\n') {
                t.type = 'e';
                line++;
            } else if (c >= 'A' && c <= 'Z') {
                t.type = 'w';
                while (end < text.length() && text.charAt(end) >= 'A' && text.charAt(end) <= 'Z') {
                    end++;
                }
            } else if (c >= '0' && c <= '9') {
                java.util.regex.Matcher m = java.util.regex.Pattern.compile("[0-9]+(\\.[0-9]+)?").matcher(text);
                m.region(at, text.length());
                m.lookingAt();
                end = m.end();
                t.type = m.group().replace(".", "").length() > 9 ? 'b' : 'n';
            } else if ("#[],=+-*/".indexOf(c) >= 0) {
                t.type = 's';
            } else {
                t.type = 'b';
            }
            t.text = text.substring(at, end);
            at = end;
        }
        Token z = new Token();
        z.type = 'z';
        z.line = line;
        z.text = "";
        all.add(z);
        return all;
    }

    static final class Reader {
        final List<Token> tokens;
        int at;
        int nonEmpty;
        int blocks;
        final Map<Integer, List<Line>> programs = new HashMap<>();

        Reader(List<Token> tokens) {
            this.tokens = tokens;
        }

        Token now() {
            return tokens.get(at);
        }

        Fault cant() {
            return new Fault(now().type == 'b' ? 1 : 2, now().line);
        }

        boolean is(char type, String text) {
            return now().type == type && now().text.equals(text);
        }

        void need(boolean good) {
            if (!good) {
                throw cant();
            }
        }

        void sign(String s) {
            need(is('s', s));
            at++;
        }

        boolean lineEnd() {
            return now().type == 'e' || now().type == 'z';
        }

        void finishLine() {
            need(lineEnd());
            if (now().type == 'e') {
                at++;
            }
        }

        void skipNothing() {
            while (now().type == 'e') {
                at++;
            }
        }

        int programNumber() {
            need(now().type == 'n' && !now().text.contains(".") && Integer.parseInt(now().text) <= 99);
            return Integer.parseInt(now().text);
        }

        void text() {
            skipNothing();
            need(now().type != 'z');
            while (now().type != 'z') {
                need(is('w', "O"));
                nonEmpty++;
                at++;
                int o = programNumber();
                need(!programs.containsKey(o));
                at++;
                List<Line> lines = new ArrayList<>();
                programs.put(o, lines);
                finishLine();
                lines(lines);
                skipNothing();
            }
        }

        /** LINES up to what isn't one that can begin here: O, ELSE, ON, LAST, END or the end. */
        void lines(List<Line> into) {
            while (true) {
                skipNothing();
                if (now().type == 'z' || now().type == 'w'
                    && Arrays.asList("O", "ELSE", "ON", "LAST", "END").contains(now().text)) {
                    return;
                }
                into.add(line());
            }
        }

        Line line() {
            Line l = new Line();
            l.line = now().line;
            nonEmpty++;
            if (is('s', "#")) {
                at++;
                l.word = "#";
                l.es.add(factor(1));
                sign("=");
                l.es.add(e(0));
                finishLine();
                return l;
            }
            need(now().type == 'w');
            String word = now().text;
            if (word.length() == 1 && "GMXYZFSP".contains(word)) {
                l.word = "MOTION";
                letters(l, "GMXYZFSP");
                finishLine();
                return l;
            }
            l.word = word;
            if (PLAIN.containsKey(word)) {
                at++;
                for (int i = 0; i < PLAIN.get(word); i++) {
                    if (i > 0) {
                        sign(",");
                    }
                    l.es.add(e(0));
                }
                finishLine();
                return l;
            }
            if (word.equals("CALL")) {
                at++;
                l.number = programNumber();
                at++;
                letters(l, "ABCDEFGHIJKLMNPQRSTUVWXYZ");
                finishLine();
                return l;
            }
            need(Arrays.asList("IF", "WHILE", "TRY", "GUARD").contains(word));
            if (blocks == 10) {
                throw new Fault(3, now().line);
            }
            block(l, word);
            return l;
        }

        void block(Line l, String word) {
            blocks++;
            at++;
            if (word.equals("IF") || word.equals("WHILE")) {
                l.es.add(e(0));
            }
            finishLine();
            lines(l.body);
            if (word.equals("IF") && is('w', "ELSE")) {
                nonEmpty++;
                at++;
                finishLine();
                l.otherwise = new ArrayList<>();
                lines(l.otherwise);
            }
            while (word.equals("TRY") && is('w', "ON")) {
                nonEmpty++;
                at++;
                need(now().type == 'w' && KINDS.contains(now().text));
                Line on = new Line();
                on.kind = now().text;
                at++;
                finishLine();
                lines(on.body);
                l.ons.add(on);
            }
            if (word.equals("TRY") && is('w', "LAST")) {
                nonEmpty++;
                at++;
                finishLine();
                l.last = new ArrayList<>();
                lines(l.last);
            }
            need(is('w', "END"));
            nonEmpty++;
            at++;
            finishLine();
            blocks--;
        }

        void letters(Line l, String allowed) {
            while (!lineEnd()) {
                need(now().type == 'w' && now().text.length() == 1 && allowed.contains(now().text)
                    && !l.letters.contains(now().text.charAt(0)));
                l.letters.add(now().text.charAt(0));
                at++;
                l.es.add(factor(0));
            }
        }

        Node two(String op, Node a, Node b) {
            Node n = new Node();
            n.op = op;
            n.parts.add(a);
            n.parts.add(b);
            return n;
        }

        Node e(int depth) {
            Node a = sum(depth);
            if (now().type == 'w' && Arrays.asList("EQ", "NE", "LT", "LE", "GT", "GE").contains(now().text)) {
                String op = now().text;
                at++;
                a = two(op, a, sum(depth));
            }
            return a;
        }

        Node sum(int depth) {
            Node a = term(depth);
            while (is('s', "+") || is('s', "-")) {
                String op = now().text;
                at++;
                a = two(op, a, term(depth));
            }
            return a;
        }

        Node term(int depth) {
            Node a = factor(depth);
            while (is('s', "*") || is('s', "/")) {
                String op = now().text;
                at++;
                a = two(op, a, factor(depth));
            }
            return a;
        }

        void deeper(int depth) {
            if (depth == 20) {
                throw new Fault(3, now().line);
            }
            at++;
        }

        Node factor(int depth) {
            Node n = new Node();
            if (is('s', "-") || is('s', "#")) {
                n.op = is('s', "-") ? "NEG" : "#";
                deeper(depth);
                n.parts.add(factor(depth + 1));
                return n;
            }
            if (is('s', "[")) {
                deeper(depth);
                Node inner = e(depth + 1);
                sign("]");
                return inner;
            }
            if (now().type == 'n') {
                String t = now().text;
                n.op = "NUMBER";
                int point = t.indexOf('.');
                double digits = Long.parseLong(t.replace(".", ""));
                n.number = point < 0 ? digits : digits / Math.pow(10, t.length() - point - 1);
                at++;
                return n;
            }
            need(now().type == 'w');
            String word = now().text;
            n.op = word;
            if (Arrays.asList("VACANT", "FEED", "WHY", "WHAT").contains(word)) {
                at++;
                return n;
            }
            need(FUNCTIONS.containsKey(word));
            at++;
            need(is('s', "["));
            deeper(depth);
            for (int i = 0; i < FUNCTIONS.get(word); i++) {
                if (i > 0) {
                    sign(",");
                }
                n.parts.add(e(depth + 1));
            }
            sign("]");
            return n;
        }
    }

    // ---------------------------------------------------------------- the cell

    static final class Tool {
        int sort;
        int number;
        short uses;
        float wear;
    }

    static final class Modes implements Cloneable {
        int motion;
        int absolute = 1;
        int offset;
        double f;
        double s;
        int spindle;
        int coolant;

        Modes copy() {
            Modes m = new Modes();
            m.motion = motion;
            m.absolute = absolute;
            m.offset = offset;
            m.f = f;
            m.s = s;
            m.spindle = spindle;
            m.coolant = coolant;
            return m;
        }
    }

    static final class Segment {
        double l;
        double v;
        double dx;
        double dy;
        double dz;
        double j = Double.NaN;
        double time;
        boolean dwell;
    }

    private String tape = "";
    private Map<Integer, List<Line>> programs;
    private int tokenCount;
    private int lineCount;
    private int made;
    private int tools;
    private int alarms;

    private double[] common;
    private double[] position;
    private double[] offsets;
    private Modes modes;
    private Object[] banks;
    private Tool[][] racks;
    private int[] rackSorts;
    private Tool held;

    private boolean ran;
    private int wentOut;
    private int wentOutLine;
    private double wentOutWhat;
    private int steps;
    private int limit;
    private int met;
    private int most;
    private int depth;
    private int segmentsAll;
    private List<Segment> segments;
    private List<Double> out;
    private double whole;
    private double[] first;
    private int why;
    private double what;

    ReferenceCell() {
        reset();
    }

    private static double[] vacant(int n) {
        double[] row = new double[n];
        Arrays.fill(row, Double.NaN);
        return row;
    }

    private void reset() {
        common = vacant(50);
        position = new double[3];
        offsets = new double[12];
        modes = new Modes();
        banks = new Object[8];
        racks = new Tool[4][];
        rackSorts = new int[4];
        held = null;
        ran = false;
        wentOut = 0;
        wentOutLine = 0;
        wentOutWhat = Double.NaN;
        steps = 0;
        met = 0;
        most = 0;
        segmentsAll = 0;
        segments = new ArrayList<>();
        out = new ArrayList<>();
        whole = Double.NaN;
        first = vacant(27);
    }

    int feed(int a, int b, int c, int d, int e) {
        if (tape.length() + 20 > 5000) {
            return -1;
        }
        StringBuilder s = new StringBuilder(tape);
        for (int w : new int[] {a, b, c, d, e}) {
            for (int k = 3; k >= 0; k--) {
                s.append((char) (w >>> 8 * k & 255));
            }
        }
        tape = s.toString();
        return tape.length();
    }

    int back(int n) {
        if (n < 0 || n > tape.length()) {
            return -1;
        }
        tape = tape.substring(0, tape.length() - n);
        return tape.length();
    }

    int read() {
        List<Token> tokens = tokens(tape);
        tape = "";
        reset();
        programs = null;
        Reader reader = new Reader(tokens);
        try {
            reader.text();
        } catch (Fault f) {
            return f.code;
        }
        tokenCount = 0;
        for (Token t : tokens) {
            tokenCount += t.type == 'e' || t.type == 'z' ? 0 : 1;
        }
        lineCount = reader.nonEmpty;
        if (tokenCount > 1000 || lineCount > 250 || reader.programs.size() > 12) {
            return 4;
        }
        programs = reader.programs;
        return 0;
    }

    boolean param(int k, long bits) {
        if (programs == null || k < 100 || k > 149) {
            return false;
        }
        common[k - 100] = Double.longBitsToDouble(bits);
        return true;
    }

    int run(int o, int most) {
        if (programs == null) {
            throw new IllegalStateException();
        }
        if (!programs.containsKey(o) || most < 0 || most > 10000) {
            throw new IllegalArgumentException();
        }
        ran = true;
        wentOut = 0;
        wentOutLine = 0;
        wentOutWhat = Double.NaN;
        steps = 0;
        limit = most;
        met = 0;
        this.most = 0;
        depth = 0;
        segmentsAll = 0;
        segments = new ArrayList<>();
        out = new ArrayList<>();
        first = vacant(27);
        why = 0;
        what = Double.NaN;
        int answer = 0;
        try {
            program(programs.get(o), first);
        } catch (Alarm a) {
            wentOut = a.number;
            wentOutLine = a.line;
            wentOutWhat = a.what;
            answer = 1;
        } catch (End e) {
            answer = e.how;
        }
        plan();
        return answer;
    }

    private void program(List<Line> lines, double[] frame) {
        depth++;
        most = Math.max(most, depth);
        try {
            lines(lines, frame);
        } catch (Return r) {
            // ends the PROGRAM
        } finally {
            depth--;
        }
    }

    private void lines(List<Line> lines, double[] frame) {
        for (Line l : lines) {
            line(l, frame);
        }
    }

    private void step() {
        if (steps == limit) {
            throw new End(2);
        }
        steps++;
    }

    private Alarm met(Alarm a, Line l) {
        if (alarms == 3000) {
            throw new End(4);
        }
        alarms++;
        met++;
        a.line = l.line;
        return a;
    }

    private void line(Line l, double[] frame) {
        step();
        double[] values;
        try {
            values = new double[l.es.size()];
            for (int i = 0; i < values.length; i++) {
                values[i] = value(l.es.get(i), frame);
            }
            plain(l, values, frame);
        } catch (Alarm a) {
            throw met(a, l);
        }
        switch (l.word) {
            case "IF":
                if (yes(values[0])) {
                    lines(l.body, frame);
                } else if (l.otherwise != null) {
                    lines(l.otherwise, frame);
                }
                break;
            case "WHILE":
                boolean go = yes(values[0]);
                while (go) {
                    lines(l.body, frame);
                    step();
                    try {
                        go = yes(value(l.es.get(0), frame));
                    } catch (Alarm a) {
                        throw met(a, l);
                    }
                }
                break;
            case "TRY":
                attempt(l, frame);
                break;
            case "GUARD":
                guard(l, frame);
                break;
            case "CALL":
                double[] own = vacant(27);
                for (int i = 0; i < values.length; i++) {
                    own[l.letters.get(i) - 'A' + 1] = values[i];
                }
                program(programs.get(l.number), own);
                break;
            case "RETURN":
                throw new Return();
            default:
                break;
        }
    }

    private static boolean yes(double x) {
        return x != 0 && x == x;
    }

    private void attempt(Line l, double[] frame) {
        RuntimeException pending = null;
        try {
            try {
                lines(l.body, frame);
            } catch (Alarm a) {
                Line taker = null;
                for (Line on : l.ons) {
                    if (taker == null && (on.kind.equals("ANY") || KINDS.indexOf(on.kind) == a.number)) {
                        taker = on;
                    }
                }
                if (taker == null) {
                    throw a;
                }
                why = a.number;
                what = a.what;
                lines(taker.body, frame);
            }
        } catch (Alarm | Return e) {
            pending = e;
        }
        if (l.last != null) {
            lines(l.last, frame);
        }
        if (pending != null) {
            throw pending;
        }
    }

    private void guard(Line l, double[] frame) {
        Modes kept = modes.copy();
        try {
            lines(l.body, frame);
        } catch (Alarm | Return e) {
            modes = kept;
            throw e;
        }
        modes = kept;
    }

    private static void alarmIf(boolean met, int number) {
        if (met) {
            throw new Alarm(number);
        }
    }

    private static boolean isA(int sort, int k) {
        return k == 0 || sort == k || sort == 2 && k == 1 || sort == 4 && k == 3;
    }

    private static int size(Object row) {
        return java.lang.reflect.Array.getLength(row);
    }

    private void make(int n) {
        if ((long) made + n + 1 > 100000) {
            throw new End(5);
        }
        made += n + 1;
    }

    private static Object newRow(int b, int n) {
        Class<?>[] types = {boolean.class, byte.class, char.class, short.class, int.class, long.class, float.class,
            double.class};
        return java.lang.reflect.Array.newInstance(types[b], n);
    }

    private void plain(Line l, double[] v, double[] frame) {
        int[] n = new int[v.length];
        for (int i = 0; i < n.length; i++) {
            n[i] = (int) v[i];
        }
        switch (l.word) {
            case "#":
                alarmIf(!(n[0] >= 1 && n[0] <= 26 || n[0] >= 100 && n[0] <= 149), 2);
                if (n[0] <= 26) {
                    frame[n[0]] = v[1];
                } else {
                    common[n[0] - 100] = v[1];
                }
                break;
            case "CALL":
                alarmIf(!programs.containsKey(l.number), 9);
                if (depth == 16) {
                    throw new End(3);
                }
                break;
            case "ALARM":
                Alarm raised = new Alarm(10);
                raised.what = v[0];
                throw raised;
            case "PRINT":
                out.add(v[0]);
                break;
            case "FIT":
                alarmIf(n[0] < 0 || n[0] > 7, 2);
                alarmIf(n[1] < 0, 3);
                make(n[1]);
                banks[n[0]] = newRow(n[0], n[1]);
                break;
            case "DROP":
                alarmIf(n[0] < 0 || n[0] > 7, 2);
                banks[n[0]] = null;
                break;
            case "PUT":
                put(n[0], n[1], v[2]);
                break;
            case "MOVE":
                alarmIf(n[0] < 0 || n[0] > 7 || n[2] < 0 || n[2] > 7, 2);
                alarmIf(banks[n[0]] == null || banks[n[2]] == null, 1);
                alarmIf(n[0] != n[2], 5);
                alarmIf(n[1] < 0 || n[3] < 0 || n[4] < 0 || (long) n[1] + n[4] > size(banks[n[0]])
                    || (long) n[3] + n[4] > size(banks[n[2]]), 2);
                Object from = newRow(n[0], n[4]);
                System.arraycopy(banks[n[0]], n[1], from, 0, n[4]);
                System.arraycopy(from, 0, banks[n[2]], n[3], n[4]);
                break;
            case "RACK":
                alarmIf(n[0] < 0 || n[0] > 3 || n[1] < 0 || n[1] > 5, 2);
                alarmIf(n[2] < 0, 3);
                make(n[2]);
                racks[n[0]] = new Tool[n[2]];
                rackSorts[n[0]] = n[1];
                break;
            case "LOAD":
                alarmIf(n[0] < 0 || n[0] > 3 || n[2] < 0 || n[2] > 5, 2);
                alarmIf(racks[n[0]] == null, 1);
                alarmIf(n[1] < 0 || n[1] >= racks[n[0]].length, 2);
                alarmIf(!isA(n[2], rackSorts[n[0]]), 5);
                if (tools == 5000) {
                    throw new End(5);
                }
                Tool tool = new Tool();
                tool.sort = n[2];
                tool.number = ++tools;
                racks[n[0]][n[1]] = tool;
                break;
            case "TAKE":
                alarmIf(n[0] < 0 || n[0] > 3, 2);
                alarmIf(racks[n[0]] == null, 1);
                alarmIf(n[1] < 0 || n[1] >= racks[n[0]].length, 2);
                alarmIf(racks[n[0]][n[1]] == null, 1);
                held = racks[n[0]][n[1]];
                racks[n[0]][n[1]] = null;
                break;
            case "BACK":
                alarmIf(n[0] < 0 || n[0] > 3, 2);
                alarmIf(racks[n[0]] == null || held == null, 1);
                alarmIf(n[1] < 0 || n[1] >= racks[n[0]].length, 2);
                alarmIf(!isA(held.sort, rackSorts[n[0]]), 5);
                racks[n[0]][n[1]] = held;
                held = null;
                break;
            case "MOTION":
                motion(l, v);
                break;
            default:
                break;
        }
    }

    private void findCell(int b, int i) {
        alarmIf(b < 0 || b > 7, 2);
        alarmIf(banks[b] == null, 1);
        alarmIf(i < 0 || i >= size(banks[b]), 2);
    }

    private void put(int b, int i, double a) {
        findCell(b, i);
        Object row = banks[b];
        switch (b) {
            case 0: ((boolean[]) row)[i] = a != 0; break;
            case 1: ((byte[]) row)[i] = (byte) (int) a; break;
            case 2: ((char[]) row)[i] = (char) (int) a; break;
            case 3: ((short[]) row)[i] = (short) (int) a; break;
            case 4: ((int[]) row)[i] = (int) a; break;
            case 5: ((long[]) row)[i] = (long) a; break;
            case 6: ((float[]) row)[i] = single(a); break;
            default: ((double[]) row)[i] = a; break;
        }
    }

    /** ROUNDED to a FLOAT: the nearest, but VACANT 0, as to an INT. */
    private static float single(double a) {
        return a != a ? 0 : (float) a;
    }

    private double port(int b, int i) {
        findCell(b, i);
        Object row = banks[b];
        switch (b) {
            case 0: return ((boolean[]) row)[i] ? 1 : 0;
            case 1: return ((byte[]) row)[i];
            case 2: return ((char[]) row)[i];
            case 3: return ((short[]) row)[i];
            case 4: return ((int[]) row)[i];
            case 5: return ((long[]) row)[i];
            case 6: return ((float[]) row)[i];
            default: return ((double[]) row)[i];
        }
    }

    private double feedOfTool() {
        alarmIf(held == null, 1);
        double s = modes.s;
        switch (held.sort) {
            case 1: return s * 0.25;
            case 2: return s * 0.25 / 2;
            case 3: return s * 0.5;
            case 4: return s * 1.5 + 0.5;
            default: return s * 0.125;
        }
    }

    private double value(Node n, double[] frame) {
        double[] v = new double[n.parts.size()];
        for (int i = 0; i < v.length; i++) {
            v[i] = value(n.parts.get(i), frame);
        }
        double a = v.length > 0 ? v[0] : 0;
        double b = v.length > 1 ? v[1] : 0;
        int i = (int) a;
        int j = (int) b;
        switch (n.op) {
            case "NUMBER": return n.number;
            case "VACANT": return Double.NaN;
            case "FEED": return feedOfTool();
            case "WHY": return why;
            case "WHAT": return what;
            case "NEG": return -a;
            case "#":
                alarmIf(!(i >= 1 && i <= 26 || i >= 100 && i <= 149), 2);
                return i <= 26 ? frame[i] : common[i - 100];
            case "+": return a + b;
            case "-": return a - b;
            case "*": return a * b;
            case "/": return a / b;
            case "EQ": return a == b ? 1 : 0;
            case "NE": return a != b ? 1 : 0;
            case "LT": return a < b ? 1 : 0;
            case "LE": return a <= b ? 1 : 0;
            case "GT": return a > b ? 1 : 0;
            case "GE": return a >= b ? 1 : 0;
            case "ABS": return Math.abs(a);
            case "FIX": return Math.floor(a);
            case "FUP": return Math.ceil(a);
            case "RND": return Math.rint(a);
            case "SQRT": return Math.sqrt(a);
            case "SGN": return Math.signum(a);
            case "ULP": return Math.ulp(a);
            case "NXT": return Math.nextUp(a);
            case "MIN": return Math.min(a, b);
            case "MAX": return Math.max(a, b);
            case "CPS": return Math.copySign(a, b != b ? 1 : b);
            case "MID": return Math.max(Math.min(a, b), Math.min(Math.max(a, b), v[2]));
            case "MOD": return a % b;
            case "INT": return i;
            case "DIV": alarmIf(j == 0, 6); return i / j;
            case "REM": alarmIf(j == 0, 6); return i % j;
            case "AND": return i & j;
            case "OR": return i | j;
            case "XOR": return i ^ j;
            case "SHL": return i << j;
            case "SHR": return i >> j;
            case "VAC": return a != a ? 1 : 0;
            case "PORT": return port(i, j);
            case "LEN":
                alarmIf(i < 0 || i > 7, 2);
                alarmIf(banks[i] == null, 1);
                return size(banks[i]);
            case "POS": alarmIf(i < 0 || i > 2, 2); return position[i];
            case "LONG": return (long) a;
            case "SING": return single(a);
            case "HELD": alarmIf(i < 0 || i > 5, 2); return held != null && isA(held.sort, i) ? 1 : 0;
            default: throw new AssertionError(n.op);
        }
    }

    private void motion(Line l, double[] v) {
        Map<Character, Double> told = new HashMap<>();
        for (int i = 0; i < v.length; i++) {
            told.put(l.letters.get(i), v[i]);
        }
        for (double x : v) {
            alarmIf(x != x, 7);
        }
        Set<Integer> gs = new HashSet<>(Arrays.asList(0, 1, 4, 54, 55, 56, 57, 81, 84, 90, 91, 92));
        Set<Integer> ms = new HashSet<>(Arrays.asList(3, 5, 8, 9));
        int g = told.containsKey('G') ? (int) (double) told.get('G') : Integer.MIN_VALUE;
        int m = told.containsKey('M') ? (int) (double) told.get('M') : Integer.MIN_VALUE;
        alarmIf(told.containsKey('G') && !gs.contains(g), 9);
        alarmIf(told.containsKey('M') && !ms.contains(m), 9);
        for (char c : "FS".toCharArray()) {
            alarmIf(told.containsKey(c) && !(told.get(c) >= 0 && told.get(c) <= 1000000), 8);
        }
        switch (g) {
            case 0: case 1: modes.motion = g; break;
            case 54: case 55: case 56: case 57: modes.offset = g - 54; break;
            case 90: modes.absolute = 1; break;
            case 91: modes.absolute = 0; break;
            default: break;
        }
        switch (m) {
            case 3: modes.spindle = 1; break;
            case 5: modes.spindle = 0; break;
            case 8: modes.coolant = 1; break;
            case 9: modes.coolant = 0; break;
            default: break;
        }
        modes.f = told.getOrDefault('F', modes.f);
        modes.s = told.getOrDefault('S', modes.s);
        if (g == 4) {
            alarmIf(!told.containsKey('P'), 9);
            alarmIf(told.get('P') < 0, 8);
            Segment s = new Segment();
            s.dwell = true;
            s.time = told.get('P') / 1000;
            keep(s);
        } else if (g == 92) {
            for (int i = 0; i < 3; i++) {
                char c = "XYZ".charAt(i);
                offsets[3 * modes.offset + i] = told.getOrDefault(c, offsets[3 * modes.offset + i]);
            }
        } else if (g == 81 || g == 84) {
            alarmIf(held == null, 1);
            alarmIf(!isA(held.sort, g == 81 ? 3 : 4), 4);
            alarmIf(!told.containsKey('Z'), 9);
            alarmIf(modes.spindle == 0, 9);
            double[] target = target(told, 2);
            double feed = feedOfTool();
            alarmIf(!(feed > 0), 9);
            double[] start = position.clone();
            go(target, feed);
            go(start, feed);
            held.uses++;
        } else if (told.containsKey('X') || told.containsKey('Y') || told.containsKey('Z')) {
            alarmIf(modes.motion == 1 && modes.f == 0, 9);
            double[] target = target(told, 0);
            double length = go(target, modes.motion == 1 ? modes.f : 6000);
            if (modes.motion == 1 && modes.spindle == 1 && held != null) {
                held.wear = held.wear + (float) length * 0.001953125f;
            }
        }
    }

    private double[] target(Map<Character, Double> told, int from) {
        double[] target = position.clone();
        for (int i = from; i < 3; i++) {
            Double x = told.get("XYZ".charAt(i));
            if (x != null) {
                target[i] = x + (modes.absolute == 1 ? offsets[3 * modes.offset + i] : position[i]);
            }
        }
        for (double t : target) {
            alarmIf(!(t >= -1000 && t <= 1000), 8);
        }
        return target;
    }

    private void keep(Segment s) {
        segmentsAll++;
        if (segments.size() < 400) {
            segments.add(s);
        }
    }

    private double go(double[] target, double v) {
        Segment s = new Segment();
        s.dx = target[0] - position[0];
        s.dy = target[1] - position[1];
        s.dz = target[2] - position[2];
        s.l = Math.sqrt(s.dx * s.dx + s.dy * s.dy + s.dz * s.dz);
        s.v = v;
        position = target.clone();
        if (s.l != 0) {
            keep(s);
        }
        return s.l;
    }

    private void plan() {
        List<Segment> path = new ArrayList<>();
        for (Segment s : segments) {
            if (!s.dwell) {
                path.add(s);
            }
        }
        int n = path.size();
        double acc = 500;
        double[] j = new double[n + 1];
        for (int i = 1; i < n; i++) {
            Segment p = path.get(i - 1);
            Segment q = path.get(i);
            double c = (p.dx * q.dx + p.dy * q.dy + p.dz * q.dz) / (p.l * q.l);
            j[i] = Math.min(p.v, q.v) * Math.min(1, Math.max(0, (1 + c) / 2));
        }
        for (int i = n - 1; i >= 0; i--) {
            j[i] = Math.min(j[i], Math.sqrt(j[i + 1] * j[i + 1] + 2 * acc * path.get(i).l));
        }
        for (int i = 0; i < n; i++) {
            j[i + 1] = Math.min(j[i + 1], Math.sqrt(j[i] * j[i] + 2 * acc * path.get(i).l));
        }
        for (int i = 0; i < n; i++) {
            Segment s = path.get(i);
            double a = j[i];
            double b = j[i + 1];
            double p = Math.min(s.v, Math.sqrt((a * a + b * b) / 2 + acc * s.l));
            s.j = a;
            s.time = (p - a) / acc + (p - b) / acc + (s.l - (2 * p * p - a * a - b * b) / (2 * acc)) / p;
        }
        whole = 0;
        for (Segment s : segments) {
            whole = whole + s.time;
        }
    }

    // ---------------------------------------------------------------- what is told

    int told(int w) {
        int[] all = {wentOut, wentOutLine, steps, met, most, segmentsAll, segments.size(), out.size()};
        return w < 0 || w > 7 ? -1 : all[w];
    }

    int count(int w) {
        if (w < 0 || w > 13) {
            return -1;
        }
        if (programs == null && w < 11) {
            return 0;
        }
        switch (w) {
            case 0: return tokenCount;
            case 1: return lineCount;
            case 2: return programs.size();
            case 3: return modes.motion;
            case 4: return modes.absolute;
            case 5: return modes.offset;
            case 6: return modes.spindle;
            case 7: return modes.coolant;
            case 8: return held == null ? -1 : held.sort;
            case 9: return held == null ? 0 : held.number;
            case 10: return held == null ? 0 : held.uses;
            case 11: return made;
            case 12: return tools;
            default: return alarms;
        }
    }

    private static double at(double[] row, int i) {
        return i >= 0 && i < row.length ? row[i] : Double.NaN;
    }

    private double realValue(int where, int i) {
        switch (where) {
            case 0: return i < 100 ? Double.NaN : at(common, i - 100);
            case 1: return at(position, i);
            case 2: return at(offsets, i);
            case 3: return at(new double[] {modes.f, modes.s}, i);
            case 4: return i >= 0 && i < out.size() && i < 200 ? out.get(i) : Double.NaN;
            case 5: return i == 0 ? wentOutWhat : Double.NaN;
            case 6: return i == 0 && ran ? whole : Double.NaN;
            case 7: return i >= 1 ? at(first, i) : Double.NaN;
            default: return Double.NaN;
        }
    }

    long real(int where, int i) {
        return programs == null ? VACANT : Double.doubleToLongBits(realValue(where, i));
    }

    long segment(int i, int w) {
        if (i < 0 || i >= segments.size() || w < 0 || w > 6) {
            return VACANT;
        }
        Segment s = segments.get(i);
        return Double.doubleToLongBits(new double[] {s.l, s.v, s.dx, s.dy, s.dz, s.j, s.time}[w]);
    }

    int bank(int b) {
        return b < 0 || b > 7 || banks[b] == null ? -1 : size(banks[b]);
    }

    long cell(int b, int i) {
        if (i < 0 || i >= bank(b)) {
            return 0;
        }
        switch (b) {
            case 5: return ((long[]) banks[b])[i];
            case 6: return Float.floatToIntBits(((float[]) banks[b])[i]);
            case 7: return Double.doubleToLongBits(((double[]) banks[b])[i]);
            default: return (long) port(b, i);
        }
    }

    int pocket(int r, int p, int w) {
        if (programs == null || r < -1 || r > 3 || r >= 0 && racks[r] == null || w < 0 || w > 5 || r == -1 && w > 3) {
            return -1;
        }
        if (w >= 4) {
            return w == 4 ? racks[r].length : rackSorts[r];
        }
        if (r >= 0 && (p < 0 || p >= racks[r].length)) {
            return -1;
        }
        Tool t = r == -1 ? held : racks[r][p];
        if (t == null) {
            return w == 0 ? -1 : 0;
        }
        return new int[] {t.sort, t.number, t.uses, Float.floatToIntBits(t.wear)}[w];
    }
}
