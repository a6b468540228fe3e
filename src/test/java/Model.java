import java.util.ArrayDeque;
import java.util.ArrayList;
import java.util.List;

/**
 * The document's words once more, written another way: it keeps THE TEXT and all SAMPLES alone, and works each answer
 * out anew from them, NODE by NODE over all TICKS where the class goes TICK by TICK over all NODES.
 */
final class Model {
    private static final int UNKNOWN = -1, BAD = -2, STATE = -3, FULL = -4, NONE = -9, CAST = -13;

    private final class Node {
        int kind;
        int[] details = {NONE, NONE, NONE, NONE};
        boolean[] holds;
        int progress;
    }

    private record Token(char sign, int value, int place) { }

    private final StringBuilder tape = new StringBuilder();
    private int fault;
    private List<Node> nodes = new ArrayList<>();
    private List<Node> made;
    private final List<Integer> samples = new ArrayList<>();
    private List<Integer> caught = new ArrayList<>();
    private List<int[]> marks = new ArrayList<>();
    private boolean stale = true;

    // ---- the text

    int feed(long w) {
        StringBuilder more = new StringBuilder();
        for (long rest = w; (rest & 255) != 0; rest >>>= 8) {
            more.append((char) (rest & 255));
        }
        if (tape.length() + more.length() > 60) {
            return FULL;
        }
        tape.append(more);
        return tape.length();
    }

    int cut() {
        int size = tape.length();
        tape.setLength(0);
        return size;
    }

    int fault() {
        return fault;
    }

    int read() {
        List<Token> tokens = tokens(tape.toString());
        int place = syntaxFault(tokens);
        if (place >= 0) {
            fault = 1;
            return -100 - place;
        }
        for (int i = 2; i < tokens.size(); i++) {
            if (tokens.get(i).sign == '9' && tokens.get(i - 1).sign == ','
                    && tokens.get(i).value < tokens.get(i - 2).value) {
                fault = 2;
                return -100 - tokens.get(i).place;
            }
        }
        fault = 0;
        made = new ArrayList<>();
        build(tokens, 0, tokens.size() - 1);
        nodes = made;
        tape.setLength(0);
        samples.clear();
        stale = true;
        return nodes.size();
    }

    /** The last one is the end ($); a NUMBER has the sign 9, what is no TOKEN the sign ?. */
    private static List<Token> tokens(String text) {
        List<Token> tokens = new ArrayList<>();
        int i = 0;
        while (i < text.length()) {
            int from = i++;
            char sign = text.charAt(from);
            if (sign >= '0' && sign <= '9') {
                while (i < text.length() && text.charAt(i) >= '0' && text.charAt(i) <= '9') {
                    i++;
                }
                int value = i - from > 3 ? 0 : Integer.parseInt(text.substring(from, i));
                tokens.add(new Token(value == 0 ? '?' : '9', value, from));
            } else if (sign != ' ') {
                tokens.add(new Token("abcdefghijklmnop;:,/&*!+-~()".indexOf(sign) < 0 ? '?' : sign, 0, from));
            }
        }
        tokens.add(new Token('$', 0, text.length()));
        return tokens;
    }

    /** Goes over the TOKENS with what may come next; the PLACE of the first FAULT, or -1. */
    private static int syntaxFault(List<Token> tokens) {
        ArrayDeque<Integer> open = new ArrayDeque<>();
        int base = 0;
        int depth = 0;
        String may = "one";
        for (int i = 0; i < tokens.size(); i++) {
            char sign = tokens.get(i).sign;
            char next = i + 1 < tokens.size() ? tokens.get(i + 1).sign : '$';
            boolean wire = sign >= 'a' && sign <= 'p';
            boolean operand = may.equals("one") || may.equals("oneOrSpan");
            if (may.equals("oneOrSpan") && sign == '9' && next != '*') {
                may = ",";
            } else if (operand && wire) {
                may = "edge";
            } else if (operand && "9!(".indexOf(sign) >= 0 && depth < 10) {
                depth++;
                may = sign == '9' ? "*" : "one";
                if (sign == '(') {
                    open.push(base);
                    base = depth;
                }
            } else if (may.equals("*") && sign == '*' || may.equals(":") && sign == ':') {
                may = "one";
            } else if (may.equals(",") && sign == ',') {
                may = "9";
            } else if (may.equals("9") && sign == '9') {
                may = ":";
            } else if (may.equals("edge") && "+-~".indexOf(sign) >= 0) {
                may = "sign";
            } else if (may.equals("edge") || may.equals("sign")) {
                depth = base;
                if (sign == ')' && !open.isEmpty()) {
                    base = open.pop();
                    depth = base;
                    may = "sign";
                } else if ("&/;".indexOf(sign) >= 0) {
                    may = sign == ';' ? "oneOrSpan" : "one";
                } else if (sign == '$' && open.isEmpty()) {
                    return -1;
                } else {
                    return tokens.get(i).place;
                }
            } else {
                return tokens.get(i).place;
            }
        }
        throw new IllegalStateException("no end");
    }

    /** Splits at the sign that binds least, the last of them; the NODE's number. */
    private int build(List<Token> tokens, int from, int to) {
        for (String signs : new String[] {";", "/", "&"}) {
            int at = lastOutside(tokens, from, to, signs.charAt(0));
            if (at >= 0) {
                int first = build(tokens, from, at);
                if (!signs.equals(";") || at + 2 >= to || tokens.get(at + 2).sign != ',') {
                    int kind = signs.equals(";") ? 6 : signs.equals("/") ? 4 : 3;
                    return make(kind, first, build(tokens, at + 1, to), NONE, NONE);
                }
                int second = build(tokens, at + 5, to);
                return make(7, first, second, tokens.get(at + 1).value, tokens.get(at + 3).value);
            }
        }
        Token head = tokens.get(from);
        switch (head.sign) {
            case '(':
                return build(tokens, from + 1, to - 1);
            case '!':
                return make(2, build(tokens, from + 1, to), NONE, NONE, NONE);
            case '9':
                return make(5, build(tokens, from + 2, to), NONE, head.value, NONE);
            default:
                int edge = to - from > 1 ? "+-~".indexOf(tokens.get(from + 1).sign) : NONE;
                return make(edge == NONE ? 0 : 1, head.sign - 'a', edge, NONE, NONE);
        }
    }

    private static int lastOutside(List<Token> tokens, int from, int to, char sign) {
        int open = 0;
        for (int i = to - 1; i >= from; i--) {
            char s = tokens.get(i).sign;
            open += s == ')' ? 1 : s == '(' ? -1 : 0;
            if (s == sign && open == 0) {
                return i;
            }
        }
        return -1;
    }

    private int make(int kind, int... details) {
        Node n = new Node();
        n.kind = kind;
        n.details = details;
        made.add(n);
        return made.size() - 1;
    }

    int node(int node, int kind, int what) {
        if (node < 0 || node >= nodes.size()) {
            return UNKNOWN;
        }
        if (kind < 0 || kind > 8 || what < 0 || what > 4) {
            return BAD;
        }
        Node n = nodes.get(node);
        String[] of = {"01", "1", "2", "3", "4", "5", "67", "7", "01234567"};
        if (of[kind].indexOf('0' + n.kind) < 0) {
            return CAST;
        }
        return what == 0 ? n.kind : n.details[what - 1];
    }

    // ---- samples

    int arm() {
        if (nodes.isEmpty()) {
            return STATE;
        }
        int size = samples.size();
        samples.clear();
        stale = true;
        return size;
    }

    int sample(int bits, int n) {
        if (bits != (bits & 65535) || n < 1 || n > 1000) {
            return BAD;
        }
        List<Integer> more = new ArrayList<>();
        repeat(more, bits, n);
        return come(more);
    }

    private int come(List<Integer> more) {
        if (nodes.isEmpty()) {
            return STATE;
        }
        if (samples.size() + more.size() > 4000) {
            return FULL;
        }
        int before = hits().size();
        samples.addAll(more);
        stale = true;
        return hits().size() - before;
    }

    private static void repeat(List<Integer> more, int bits, int n) {
        for (int i = 0; i < n; i++) {
            more.add(bits);
        }
    }

    private int wire(int tick, int wire) {
        return samples.get(tick) >> wire & 1;
    }

    private void workOut() {
        if (stale) {
            nodes.forEach(this::workOut);
            stale = false;
        }
    }

    private void workOut(Node n) {
        int size = samples.size();
        n.holds = new boolean[size];
        n.progress = n.kind == 5 ? 0 : NONE;
        boolean[] one = n.kind < 2 ? null : nodes.get(n.details[0]).holds;
        boolean[] two = n.kind < 3 || n.kind == 5 ? null : nodes.get(n.details[1]).holds;
        for (int t = 0; t < size; t++) {
            switch (n.kind) {
                case 0 -> n.holds[t] = wire(t, n.details[0]) == 1;
                case 1 -> n.holds[t] = t > 0 && isEdge(n.details[1], wire(t - 1, n.details[0]), wire(t, n.details[0]));
                case 2 -> n.holds[t] = !one[t];
                case 3 -> n.holds[t] = one[t] & two[t];
                case 4 -> n.holds[t] = one[t] | two[t];
                case 5 -> {
                    n.progress += one[t] ? 1 : 0;
                    n.holds[t] = one[t] && n.progress % n.details[2] == 0;
                }
                default -> {
                    int low = n.kind == 7 ? n.details[2] : 1;
                    int high = n.kind == 7 ? n.details[3] : 1000000;
                    boolean waits = n.progress != NONE && n.progress + high >= t;
                    n.holds[t] = waits && n.progress + low <= t && two[t];
                    if (n.holds[t] || !waits && !one[t]) {
                        n.progress = NONE;
                    } else if (!waits) {
                        n.progress = t;
                    }
                }
            }
        }
    }

    private static boolean isEdge(int which, int was, int is) {
        return was != is && (which == 2 || which == was);
    }

    private List<Integer> hits() {
        workOut();
        List<Integer> hits = new ArrayList<>();
        for (int t = 0; t < samples.size(); t++) {
            if (nodes.get(nodes.size() - 1).holds[t]) {
                hits.add(t);
            }
        }
        return hits;
    }

    int holds(int node) {
        workOut();
        if (node < 0 || node >= nodes.size()) {
            return UNKNOWN;
        }
        return !samples.isEmpty() && nodes.get(node).holds[samples.size() - 1] ? 1 : 0;
    }

    int waits(int node) {
        workOut();
        return node < 0 || node >= nodes.size() ? UNKNOWN : nodes.get(node).progress;
    }

    int held(int tick) {
        return at(tick) == UNKNOWN ? UNKNOWN : hits().contains(tick) ? 1 : 0;
    }

    int when(int i) {
        return get(hits(), i, NONE);
    }

    int at(int tick) {
        return get(samples, tick, UNKNOWN);
    }

    private static int get(List<Integer> list, int i, int none) {
        return i >= 0 && i < list.size() ? list.get(i) : none;
    }

    // ---- what is caught

    int grab(int i, int ahead, int behind) {
        int middle = when(i);
        if (middle == NONE) {
            return UNKNOWN;
        }
        if (Math.min(ahead, behind) < 0 || Math.max(ahead, behind) > 500) {
            return BAD;
        }
        caught = new ArrayList<>();
        for (int t = 0; t < samples.size(); t++) {
            if (t - middle <= behind && middle - t <= ahead) {
                caught.add(samples.get(t));
            }
        }
        return caught.size();
    }

    int caught(int k) {
        return get(caught, k, NONE);
    }

    private List<int[]> runsOf(int wires) {
        List<int[]> runs = new ArrayList<>();
        for (int bits : caught) {
            if (runs.isEmpty() || runs.get(runs.size() - 1)[0] != (bits & wires)) {
                runs.add(new int[] {bits & wires, 0});
            }
            runs.get(runs.size() - 1)[1]++;
        }
        return runs;
    }

    int runs() {
        return runsOf(65535).size();
    }

    int run(int r, int what) {
        if (r < 0 || r >= runs()) {
            return UNKNOWN;
        }
        return what == 0 || what == 1 ? runsOf(65535).get(r)[what] : BAD;
    }

    int squeezed(int wires) {
        return wires == (wires & 65535) ? runsOf(wires).size() : BAD;
    }

    // ---- frames, bytes

    int frames(int wire, int width) {
        if (wire < 0 || wire > 15) {
            return UNKNOWN;
        }
        if (width < 1 || width > 20) {
            return BAD;
        }
        marks = new ArrayList<>();
        StringBuilder levels = new StringBuilder("1");
        for (int t = 0; t < samples.size(); t++) {
            levels.append(wire(t, wire));
        }
        // Place p of the text is TICK p - 1.
        int p = levels.indexOf("10");
        while (p >= 0 && p + 1 + width / 2 < levels.length()) {
            int s = p + 1;
            int last = s + width / 2;
            if (levels.charAt(last) == '1') {
                marks.add(new int[] {3, NONE, last - 1});
            } else {
                last += 9 * width;
                if (last >= levels.length()) {
                    break;
                }
                int value = 0;
                for (int j = 7; j >= 0; j--) {
                    value = 2 * value + levels.charAt(s + width * (j + 1) + width / 2) - '0';
                }
                marks.add(levels.charAt(last) == '1' ? new int[] {0, value, s - 1} : new int[] {3, NONE, last - 1});
            }
            p = levels.indexOf("10", last);
        }
        return keepMarks();
    }

    private int keepMarks() {
        marks = marks.subList(0, Math.min(marks.size(), 400));
        return marks.size();
    }

    int bytes(int clock, int data) {
        if (Math.min(clock, data) < 0 || Math.max(clock, data) > 15) {
            return UNKNOWN;
        }
        if (clock == data) {
            return BAD;
        }
        marks = new ArrayList<>();
        StringBuilder bits = null;
        boolean rose = false;
        for (int t = 1; t < samples.size(); t++) {
            String c = "" + wire(t - 1, clock) + wire(t, clock);
            String d = "" + wire(t - 1, data) + wire(t, data);
            if (c.equals("11") && d.equals("10")) {
                marks.add(new int[] {1, NONE, t});
                bits = new StringBuilder();
                rose = false;
            } else if (c.equals("11") && d.equals("01") && bits != null) {
                if (bits.length() % 8 != 0) {
                    marks.add(new int[] {3, NONE, t});
                }
                marks.add(new int[] {2, NONE, t});
                bits = null;
            } else if (c.equals("10") && bits != null && rose) {
                bits.append(d.charAt(0));
                if (bits.length() % 8 == 0) {
                    marks.add(new int[] {0, Integer.parseInt(bits.substring(bits.length() - 8), 2), t});
                }
            }
            rose |= c.equals("01");
        }
        return keepMarks();
    }

    int mark(int i, int what) {
        if (i < 0 || i >= marks.size()) {
            return UNKNOWN;
        }
        return what >= 0 && what <= 2 ? marks.get(i)[what] : BAD;
    }

    private int others(int wires) {
        return samples.isEmpty() ? 0 : samples.get(samples.size() - 1) & ~wires;
    }

    int sendFrame(int wire, int width, int b) {
        if (wire < 0 || wire > 15) {
            return UNKNOWN;
        }
        if (width < 1 || width > 20 || b != (b & 255)) {
            return BAD;
        }
        int frame = 1 << 9 | b << 1;
        List<Integer> more = new ArrayList<>();
        for (int i = 0; i < 10; i++) {
            repeat(more, others(1 << wire) | (frame >> i & 1) << wire, width);
        }
        return come(more);
    }

    int sendByte(int clock, int data, int b, boolean start, boolean stop) {
        if (Math.min(clock, data) < 0 || Math.max(clock, data) > 15) {
            return UNKNOWN;
        }
        if (clock == data || b != (b & 255)) {
            return BAD;
        }
        StringBuilder pairs = new StringBuilder(start ? "111000" : "");
        for (int j = 7; j >= 0; j--) {
            pairs.append("0x1x0x".replace('x', (char) ('0' + (b >> j & 1))));
        }
        pairs.append(stop ? "001011" : "");
        List<Integer> more = new ArrayList<>();
        for (int i = 0; i < pairs.length(); i += 2) {
            more.add(others(1 << clock | 1 << data) | (pairs.charAt(i) - '0') << clock
                    | (pairs.charAt(i + 1) - '0') << data);
        }
        return come(more);
    }

    int total(int what) {
        return switch (what) {
            case 0 -> nodes.size();
            case 1 -> samples.size();
            case 2 -> hits().size();
            case 3 -> caught.size();
            case 4 -> marks.size();
            case 5 -> tape.length();
            default -> BAD;
        };
    }
}
