public final class TriggerLoom {
    public static final int UNKNOWN = -1, BAD = -2, STATE = -3, FULL = -4, NONE = -9, CAST = -13;

    private static final int WIRES = 16;
    private static final int ALL_WIRES = 65535;
    private static final int TAPE_MOST = 60;
    // Each NODE takes a byte of THE TAPE at least.
    private static final int NODES_MOST = TAPE_MOST;
    private static final int DEPTH_MOST = 10;
    private static final int NUMBER_MOST = 999;
    private static final int SAMPLES_MOST = 4000;
    private static final int TIMES_MOST = 1000;
    private static final int AROUND_MOST = 500;
    private static final int CAUGHT_MOST = 2 * AROUND_MOST + 1;
    private static final int MARKS_MOST = 400;
    private static final int WIDTH_MOST = 20;
    private static final int BYTE_MOST = 255;
    private static final int BITS_OF_BYTE = 8;
    private static final int BITS_OF_FRAME = 10;

    private static final int LEVEL = 0, EDGE = 1, NOT = 2, BOTH = 3, EITHER = 4;
    private static final int COUNTED = 5, ARMED = 6, TIMED = 7, ANY = 8;
    private static final int RISE = 0, FALL = 1, CHANGE = 2;
    private static final int NO_FAULT = 0, SYNTAX = 1, SPAN = 2;
    private static final int MARK_BYTE = 0, MARK_START = 1, MARK_STOP = 2, MARK_FAULT = 3;

    // What no byte is, so that a token is a byte or one of these.
    private static final int NUMBER = 256, END = 257, NO_TOKEN = 258;

    private final Tape tape;
    private final TextReader reader;
    private final History history;
    private final Catch net;
    private final Marks marks;
    private final FrameReader frameReader;
    private final ByteReader byteReader;
    private Trigger trigger;
    // THE TAPE is read into this one, so that a FAULT leaves the other as it is.
    private Trigger spare;

    public TriggerLoom() {
        trigger = new Trigger();
        spare = new Trigger();
        tape = new Tape();
        reader = new TextReader(tape, spare);
        history = new History();
        net = new Catch();
        marks = new Marks();
        frameReader = new FrameReader(history, marks);
        byteReader = new ByteReader(history, marks);
    }

    // ---- the text

    public int feed(long w) {
        return tape.append(w);
    }

    public int cut() {
        int size = tape.size();
        tape.clear();
        return size;
    }

    public int read() {
        if (!reader.readInto(spare)) {
            return -100 - reader.faultPlace();
        }
        Trigger before = trigger;
        trigger = spare;
        spare = before;
        startAnew();
        tape.clear();
        return trigger.size();
    }

    public int fault() {
        return reader.faultKind();
    }

    public int node(int node, int kind, int what) {
        Node taken = trigger.nodeAt(node);
        if (taken == null) {
            return UNKNOWN;
        }
        if (kind < LEVEL || kind > ANY || what < 0 || what > 4) {
            return BAD;
        }
        return taken.isOf(kind) ? taken.detail(what) : CAST;
    }

    // ---- samples

    public int arm() {
        if (!hasTrigger()) {
            return STATE;
        }
        int size = history.size();
        startAnew();
        return size;
    }

    public int sample(int bits, int n) {
        if (bits < 0 || bits > ALL_WIRES || n < 1 || n > TIMES_MOST) {
            return BAD;
        }
        int refusal = refusalOf(n);
        return refusal != 0 ? refusal : take(bits, n);
    }

    public int holds(int node) {
        Node asked = trigger.nodeAt(node);
        if (asked == null) {
            return UNKNOWN;
        }
        return asked.isOn() ? 1 : 0;
    }

    public int waits(int node) {
        Node asked = trigger.nodeAt(node);
        return asked == null ? UNKNOWN : asked.progress();
    }

    public int held(int tick) {
        if (!history.hasCome(tick)) {
            return UNKNOWN;
        }
        return history.isHit(tick) ? 1 : 0;
    }

    public int when(int i) {
        return history.hitTick(i);
    }

    public int at(int tick) {
        return history.sampleAt(tick);
    }

    // ---- what is caught

    public int grab(int i, int ahead, int behind) {
        int middle = history.hitTick(i);
        if (middle == NONE) {
            return UNKNOWN;
        }
        if (ahead < 0 || ahead > AROUND_MOST || behind < 0 || behind > AROUND_MOST) {
            return BAD;
        }
        net.clear();
        int last = Math.min(middle + behind, history.size() - 1);
        for (int tick = Math.max(middle - ahead, 0); tick <= last; tick++) {
            net.add(history.sampleAt(tick));
        }
        return net.size();
    }

    public int caught(int k) {
        return net.sampleAt(k);
    }

    public int runs() {
        return net.countRuns(ALL_WIRES);
    }

    public int run(int r, int what) {
        int start = net.runStart(r);
        if (start == NONE) {
            return UNKNOWN;
        }
        if (what < 0 || what > 1) {
            return BAD;
        }
        return what == 0 ? net.sampleAt(start) : net.runLength(start);
    }

    public int squeezed(int wires) {
        if (wires < 0 || wires > ALL_WIRES) {
            return BAD;
        }
        return net.countRuns(wires);
    }

    // ---- frames, bytes

    public int frames(int wire, int width) {
        if (!isWire(wire)) {
            return UNKNOWN;
        }
        if (!isWidth(width)) {
            return BAD;
        }
        frameReader.readAll(wire, width);
        return marks.size();
    }

    public int bytes(int clock, int data) {
        if (!isWire(clock) || !isWire(data)) {
            return UNKNOWN;
        }
        if (clock == data) {
            return BAD;
        }
        byteReader.readAll(clock, data);
        return marks.size();
    }

    public int mark(int i, int what) {
        return marks.detail(i, what);
    }

    public int sendFrame(int wire, int width, int b) {
        if (!isWire(wire)) {
            return UNKNOWN;
        }
        if (!isWidth(width) || !isByte(b)) {
            return BAD;
        }
        int refusal = refusalOf(BITS_OF_FRAME * width);
        return refusal != 0 ? refusal : takeFrame(1 << wire, width, b);
    }

    public int sendByte(int clock, int data, int b, boolean start, boolean stop) {
        if (!isWire(clock) || !isWire(data)) {
            return UNKNOWN;
        }
        if (clock == data || !isByte(b)) {
            return BAD;
        }
        int refusal = refusalOf(3 * BITS_OF_BYTE + (start ? 3 : 0) + (stop ? 3 : 0));
        if (refusal != 0) {
            return refusal;
        }
        int c = 1 << clock;
        int d = 1 << data;
        int others = lastSample() & ~(c | d);
        int hits = start ? takeThree(others | c | d, others | c, others) : 0;
        for (int j = BITS_OF_BYTE - 1; j >= 0; j--) {
            int low = bitOf(b, j) == 1 ? others | d : others;
            hits += takeThree(low, low | c, low);
        }
        return hits + (stop ? takeThree(others, others | c, others | c | d) : 0);
    }

    public int total(int what) {
        switch (what) {
            case 0:
                return trigger.size();
            case 1:
                return history.size();
            case 2:
                return history.hitCount();
            case 3:
                return net.size();
            case 4:
                return marks.size();
            case 5:
                return tape.size();
            default:
                return BAD;
        }
    }

    private boolean hasTrigger() {
        return trigger.size() > 0;
    }

    private void startAnew() {
        history.clear();
        trigger.rest();
    }

    /** Why so many more SAMPLES can't come; 0: they can. */
    private int refusalOf(int more) {
        if (!hasTrigger()) {
            return STATE;
        }
        return history.hasRoom(more) ? 0 : FULL;
    }

    private int lastSample() {
        return Math.max(history.sampleAt(history.size() - 1), 0);
    }

    private int take(int bits, int times) {
        int hits = 0;
        for (int i = 0; i < times; i++) {
            int tick = history.size();
            boolean hit = trigger.step(tick, history.sampleAt(tick - 1), bits);
            history.add(bits, hit);
            if (hit) {
                hits++;
            }
        }
        return hits;
    }

    private int takeThree(int one, int two, int three) {
        return take(one, 1) + take(two, 1) + take(three, 1);
    }

    private int takeFrame(int wireBit, int width, int b) {
        int low = lastSample() & ~wireBit;
        int high = low | wireBit;
        int hits = take(low, width);
        for (int j = 0; j < BITS_OF_BYTE; j++) {
            hits += take(bitOf(b, j) == 1 ? high : low, width);
        }
        return hits + take(high, width);
    }

    private static int bitOf(int bits, int place) {
        return (bits >> place) & 1;
    }

    private static boolean isWire(int wire) {
        return wire >= 0 && wire < WIRES;
    }

    private static boolean isWidth(int width) {
        return width >= 1 && width <= WIDTH_MOST;
    }

    private static boolean isByte(int b) {
        return b >= 0 && b <= BYTE_MOST;
    }

    /** The bytes that are fed and not yet read. */
    private static final class Tape {
        private final int[] signs = new int[TAPE_MOST];
        private int size;

        int append(long w) {
            int more = countBytes(w);
            if (more > TAPE_MOST - size) {
                return FULL;
            }
            for (int i = 0; i < more && size < TAPE_MOST; i++) {
                signs[size] = byteOf(w, i);
                size++;
            }
            return size;
        }

        void clear() {
            size = 0;
        }

        int size() {
            return size;
        }

        /** The byte at a place; END behind the last one. */
        int signAt(int place) {
            return place >= 0 && place < size ? signs[place] : END;
        }

        int skipBlanks(int from) {
            int place = from;
            while (place < size && signAt(place) == ' ') {
                place++;
            }
            return place;
        }

        private static int countBytes(long w) {
            int count = 0;
            while (count < 8 && byteOf(w, count) != 0) {
                count++;
            }
            return count;
        }

        private static int byteOf(long w, int i) {
            return (int) (w >>> (8 * i)) & 255;
        }
    }

    /** Reads THE TEXT off the tape, token by token, into a trigger. */
    private static final class TextReader {
        private final Tape tape;
        private Trigger into;
        private int token;
        private int number;
        private int place;
        private int behind;
        private int syntaxPlace = NONE;
        private int spanPlace = NONE;

        TextReader(Tape tape, Trigger into) {
            this.tape = tape;
            this.into = into;
        }

        boolean readInto(Trigger target) {
            into = target;
            target.clear();
            syntaxPlace = NONE;
            spanPlace = NONE;
            behind = 0;
            advance();
            int last = readRow(0);
            if (last >= 0 && token != END) {
                refuse();
            }
            return faultKind() == NO_FAULT;
        }

        int faultKind() {
            if (syntaxPlace != NONE) {
                return SYNTAX;
            }
            return spanPlace != NONE ? SPAN : NO_FAULT;
        }

        int faultPlace() {
            return syntaxPlace != NONE ? syntaxPlace : spanPlace;
        }

        // The reading methods below answer the number of the NODE that they made, or a number
        // below 0 behind a FAULT; depth tells how many ONEs lie around.

        private int readRow(int depth) {
            int row = readEither(depth);
            for (int i = 0; i < TAPE_MOST && row >= 0 && token == ';'; i++) {
                advance();
                row = token == NUMBER && !starIsNext() ? readTimed(row, depth) : readArmed(row, depth);
            }
            return row;
        }

        private int readArmed(int first, int depth) {
            int second = readEither(depth);
            return second < 0 ? second : make(ARMED, first, second, NONE, NONE);
        }

        private int readTimed(int first, int depth) {
            int low = number;
            advance();
            if (!passes(',') || token != NUMBER) {
                return refuse();
            }
            int high = number;
            if (high < low && spanPlace == NONE) {
                spanPlace = place;
            }
            advance();
            if (!passes(':')) {
                return refuse();
            }
            int second = readEither(depth);
            return second < 0 ? second : make(TIMED, first, second, low, high);
        }

        private int readEither(int depth) {
            int either = readBoth(depth);
            for (int i = 0; i < TAPE_MOST && either >= 0 && token == '/'; i++) {
                advance();
                int second = readBoth(depth);
                either = second < 0 ? second : make(EITHER, either, second, NONE, NONE);
            }
            return either;
        }

        private int readBoth(int depth) {
            int both = readOne(depth);
            for (int i = 0; i < TAPE_MOST && both >= 0 && token == '&'; i++) {
                advance();
                int second = readOne(depth);
                both = second < 0 ? second : make(BOTH, both, second, NONE, NONE);
            }
            return both;
        }

        private int readOne(int depth) {
            if (token >= 'a' && token <= 'p') {
                return readWire();
            }
            if (depth >= DEPTH_MOST) {
                return refuse();
            }
            switch (token) {
                case NUMBER:
                    return readCounted(depth + 1);
                case '!':
                    return readNot(depth + 1);
                case '(':
                    return readWithin(depth + 1);
                default:
                    return refuse();
            }
        }

        private int readWire() {
            int wire = token - 'a';
            advance();
            int edge = edgeOf(token);
            if (edge == NONE) {
                return make(LEVEL, wire, NONE, NONE, NONE);
            }
            advance();
            return make(EDGE, wire, edge, NONE, NONE);
        }

        private int readCounted(int depth) {
            int times = number;
            advance();
            if (!passes('*')) {
                return refuse();
            }
            int within = readOne(depth);
            return within < 0 ? within : make(COUNTED, within, NONE, times, NONE);
        }

        private int readNot(int depth) {
            advance();
            int within = readOne(depth);
            return within < 0 ? within : make(NOT, within, NONE, NONE, NONE);
        }

        private int readWithin(int depth) {
            advance();
            int row = readRow(depth);
            if (row < 0) {
                return row;
            }
            return passes(')') ? row : refuse();
        }

        private int make(int kind, int first, int second, int low, int high) {
            int made = into.add(kind, first, second, low, high);
            return made < 0 ? refuse() : made;
        }

        /** The token at hand is the one that faults, if none did ahead of it. */
        private int refuse() {
            if (syntaxPlace == NONE) {
                syntaxPlace = place;
            }
            return NONE;
        }

        private boolean passes(int sign) {
            if (token != sign) {
                return false;
            }
            advance();
            return true;
        }

        private void advance() {
            place = tape.skipBlanks(behind);
            token = tape.signAt(place);
            if (isDigit(token)) {
                readNumber();
            } else {
                behind = token == END ? place : place + 1;
            }
        }

        private void readNumber() {
            behind = place;
            number = 0;
            for (int i = 0; i < TAPE_MOST && isDigit(tape.signAt(behind)); i++) {
                // One more than can be stays too much, however many digits follow.
                number = Math.min(10 * number + tape.signAt(behind) - '0', NUMBER_MOST + 1);
                behind++;
            }
            boolean fits = behind - place <= 3 && number >= 1 && number <= NUMBER_MOST;
            token = fits ? NUMBER : NO_TOKEN;
        }

        /** Whether a NUMBER at hand begins a COUNTED, where it could as well begin a span. */
        private boolean starIsNext() {
            return tape.signAt(tape.skipBlanks(behind)) == '*';
        }

        private static boolean isDigit(int sign) {
            return sign >= '0' && sign <= '9';
        }

        private static int edgeOf(int sign) {
            switch (sign) {
                case '+':
                    return RISE;
                case '-':
                    return FALL;
                case '~':
                    return CHANGE;
                default:
                    return NONE;
            }
        }
    }

    /** A NODE: what THE TEXT made it, and how far it has come since arm(). */
    private static final class Node {
        private int kind;
        private int first;
        private int second;
        private int low;
        private int high;
        private boolean on;
        private int times;
        private int since;

        void become(int kind, int first, int second, int low, int high) {
            this.kind = kind;
            this.first = first;
            this.second = second;
            this.low = low;
            this.high = high;
        }

        void rest() {
            on = false;
            times = 0;
            since = NONE;
        }

        boolean isOn() {
            return on;
        }

        boolean isOf(int asked) {
            switch (asked) {
                case LEVEL:
                    return kind == LEVEL || kind == EDGE;
                case ARMED:
                    return isArmed();
                case ANY:
                    return true;
                default:
                    return kind == asked;
            }
        }

        int detail(int what) {
            switch (what) {
                case 0:
                    return kind;
                case 1:
                    return first;
                case 2:
                    return second;
                case 3:
                    return low;
                default:
                    return high;
            }
        }

        /** What waits() tells. */
        int progress() {
            if (kind == COUNTED) {
                return times;
            }
            return isArmed() ? since : NONE;
        }

        void stepWire(int before, int bits) {
            boolean now = bitOf(bits, first) == 1;
            if (kind == LEVEL) {
                on = now;
            } else {
                // There is no EDGE without a SAMPLE ahead.
                on = before >= 0 && isEdge(bitOf(before, first) == 1, now);
            }
        }

        void stepPair(boolean one, boolean two) {
            on = kind == BOTH ? one && two : one || two;
        }

        void stepNot(boolean within) {
            on = !within;
        }

        void stepCounted(boolean within) {
            if (within) {
                times++;
            }
            on = within && low > 0 && times % low == 0;
        }

        void stepArmed(int tick, boolean one, boolean two) {
            on = false;
            if (kind == TIMED && since != NONE && tick - since > high) {
                since = NONE;
            }
            if (since == NONE) {
                since = one ? tick : NONE;
            } else if (two && !(kind == TIMED && tick - since < low)) {
                on = true;
                since = NONE;
            }
        }

        private boolean isArmed() {
            return kind == ARMED || kind == TIMED;
        }

        private boolean isEdge(boolean was, boolean is) {
            switch (second) {
                case RISE:
                    return is && !was;
                case FALL:
                    return was && !is;
                default:
                    return was != is;
            }
        }
    }

    /** The NODES of one TEXT, each behind those within it. */
    private static final class Trigger {
        private final Node[] nodes = new Node[NODES_MOST];
        private int size;

        Trigger() {
            for (int i = 0; i < NODES_MOST; i++) {
                nodes[i] = new Node();
            }
        }

        void clear() {
            size = 0;
        }

        int size() {
            return size;
        }

        /** The new NODE's number; FULL, if there is no room for it. */
        int add(int kind, int first, int second, int low, int high) {
            if (size >= NODES_MOST) {
                return FULL;
            }
            nodes[size].become(kind, first, second, low, high);
            size++;
            return size - 1;
        }

        Node nodeAt(int i) {
            return i >= 0 && i < size ? nodes[i] : null;
        }

        void rest() {
            for (int i = 0; i < size; i++) {
                nodes[i].rest();
            }
        }

        /** Goes on by one TICK (before: the SAMPLE ahead, or below 0): whether the TRIGGER HOLDS. */
        boolean step(int tick, int before, int bits) {
            for (int i = 0; i < size; i++) {
                stepNode(nodes[i], tick, before, bits);
            }
            return isOn(size - 1);
        }

        private void stepNode(Node node, int tick, int before, int bits) {
            switch (node.kind) {
                case NOT:
                    node.stepNot(isOn(node.first));
                    break;
                case BOTH:
                case EITHER:
                    node.stepPair(isOn(node.first), isOn(node.second));
                    break;
                case COUNTED:
                    node.stepCounted(isOn(node.first));
                    break;
                case ARMED:
                case TIMED:
                    node.stepArmed(tick, isOn(node.first), isOn(node.second));
                    break;
                default:
                    node.stepWire(before, bits);
                    break;
            }
        }

        private boolean isOn(int i) {
            Node asked = nodeAt(i);
            return asked != null && asked.isOn();
        }
    }

    /** All SAMPLES since arm(), and at which TICKS the TRIGGER HELD (hits). */
    private static final class History {
        private final int[] samples = new int[SAMPLES_MOST];
        private final boolean[] hits = new boolean[SAMPLES_MOST];
        private int size;
        private int hitCount;

        void clear() {
            size = 0;
            hitCount = 0;
        }

        int size() {
            return size;
        }

        int hitCount() {
            return hitCount;
        }

        boolean hasRoom(int more) {
            return more <= SAMPLES_MOST - size;
        }

        void add(int bits, boolean hit) {
            if (hasRoom(1)) {
                samples[size] = bits;
                hits[size] = hit;
                size++;
                hitCount += hit ? 1 : 0;
            }
        }

        boolean hasCome(int tick) {
            return tick >= 0 && tick < size;
        }

        int sampleAt(int tick) {
            return hasCome(tick) ? samples[tick] : UNKNOWN;
        }

        /** A WIRE at a TICK: 1, 0; UNKNOWN: the TICK has not come. */
        int wireAt(int tick, int wire) {
            return hasCome(tick) ? bitOf(samples[tick], wire) : UNKNOWN;
        }

        boolean isHit(int tick) {
            return hasCome(tick) && hits[tick];
        }

        int hitTick(int i) {
            if (i < 0 || i >= hitCount) {
                return NONE;
            }
            int left = i;
            for (int tick = 0; tick < size; tick++) {
                if (hits[tick]) {
                    if (left == 0) {
                        return tick;
                    }
                    left--;
                }
            }
            return NONE;
        }
    }

    /** SAMPLES that are CAUGHT, kept by themselves: arm() leaves them. */
    private static final class Catch {
        private final int[] samples = new int[CAUGHT_MOST];
        private int size;

        void clear() {
            size = 0;
        }

        int size() {
            return size;
        }

        void add(int bits) {
            if (size < CAUGHT_MOST) {
                samples[size] = bits;
                size++;
            }
        }

        int sampleAt(int k) {
            return k >= 0 && k < size ? samples[k] : NONE;
        }

        int countRuns(int wires) {
            int count = 0;
            for (int k = 0; k < size; k++) {
                if (startsRun(k, wires)) {
                    count++;
                }
            }
            return count;
        }

        int runStart(int r) {
            int left = r;
            for (int k = 0; k < size && left >= 0; k++) {
                if (startsRun(k, ALL_WIRES)) {
                    if (left == 0) {
                        return k;
                    }
                    left--;
                }
            }
            return NONE;
        }

        int runLength(int start) {
            int next = start + 1;
            while (next < size && !startsRun(next, ALL_WIRES)) {
                next++;
            }
            return next - start;
        }

        private boolean startsRun(int k, int wires) {
            return k == 0 || ((sampleAt(k) ^ sampleAt(k - 1)) & wires) != 0;
        }
    }

    /** MARKS of what was read last. */
    private static final class Marks {
        private final int[] kinds = new int[MARKS_MOST];
        private final int[] values = new int[MARKS_MOST];
        private final int[] ticks = new int[MARKS_MOST];
        private int size;

        void clear() {
            size = 0;
        }

        int size() {
            return size;
        }

        boolean isFull() {
            return size >= MARKS_MOST;
        }

        void addByte(int value, int tick) {
            add(MARK_BYTE, value, tick);
        }

        void addSign(int kind, int tick) {
            add(kind, NONE, tick);
        }

        int detail(int i, int what) {
            if (i < 0 || i >= size) {
                return UNKNOWN;
            }
            switch (what) {
                case 0:
                    return kinds[i];
                case 1:
                    return values[i];
                case 2:
                    return ticks[i];
                default:
                    return BAD;
            }
        }

        private void add(int kind, int value, int tick) {
            if (!isFull()) {
                kinds[size] = kind;
                values[size] = value;
                ticks[size] = tick;
                size++;
            }
        }
    }

    /** Reads FRAMES of a WIRE. */
    private static final class FrameReader {
        private final History history;
        private final Marks marks;

        FrameReader(History history, Marks marks) {
            this.history = history;
            this.marks = marks;
        }

        void readAll(int wire, int width) {
            marks.clear();
            int start = findBeginning(wire, 0);
            for (int i = 0; i < SAMPLES_MOST && start != NONE && !marks.isFull(); i++) {
                int looked = readFrame(wire, width, start);
                start = looked == NONE ? NONE : findBeginning(wire, looked + 1);
            }
        }

        private int findBeginning(int wire, int from) {
            for (int tick = from; tick < history.size(); tick++) {
                boolean falls = tick == 0 || history.wireAt(tick - 1, wire) == 1;
                if (falls && history.wireAt(tick, wire) == 0) {
                    return tick;
                }
            }
            return NONE;
        }

        /** The TICK that was looked at last; NONE, if one that is needed has not come. */
        private int readFrame(int wire, int width, int start) {
            int middle = start + width / 2;
            if (history.wireAt(middle, wire) == 1) {
                marks.addSign(MARK_FAULT, middle);
                return middle;
            }
            int end = middle + 9 * width;
            if (!history.hasCome(end)) {
                return NONE;
            }
            if (history.wireAt(end, wire) == 1) {
                marks.addByte(readValue(wire, width, middle), start);
            } else {
                marks.addSign(MARK_FAULT, end);
            }
            return end;
        }

        private int readValue(int wire, int width, int middle) {
            int value = 0;
            for (int j = 0; j < BITS_OF_BYTE; j++) {
                value |= (history.wireAt(middle + width * (j + 1), wire) & 1) << j;
            }
            return value;
        }
    }

    /** Reads BYTES of two WIRES. */
    private static final class ByteReader {
        private final History history;
        private final Marks marks;
        private boolean started;
        private boolean clockRose;
        private int bitCount;
        private int value;

        ByteReader(History history, Marks marks) {
            this.history = history;
            this.marks = marks;
        }

        void readAll(int clock, int data) {
            marks.clear();
            started = false;
            for (int tick = 1; tick < history.size() && !marks.isFull(); tick++) {
                int clockWas = history.wireAt(tick - 1, clock);
                int clockIs = history.wireAt(tick, clock);
                int dataWas = history.wireAt(tick - 1, data);
                if (clockWas == 1 && clockIs == 1) {
                    lookAtData(tick, dataWas, history.wireAt(tick, data));
                } else if (clockWas == 1) {
                    clockFalls(tick, dataWas);
                } else if (clockIs == 1) {
                    clockRose = true;
                }
            }
        }

        private void lookAtData(int tick, int was, int is) {
            if (was == 1 && is == 0) {
                marks.addSign(MARK_START, tick);
                started = true;
                clockRose = false;
                bitCount = 0;
                value = 0;
            } else if (was == 0 && is == 1 && started) {
                if (bitCount > 0) {
                    marks.addSign(MARK_FAULT, tick);
                }
                marks.addSign(MARK_STOP, tick);
                started = false;
            }
        }

        private void clockFalls(int tick, int bit) {
            if (!started || !clockRose) {
                return;
            }
            value = 2 * value + bit;
            bitCount++;
            if (bitCount == BITS_OF_BYTE) {
                marks.addByte(value, tick);
                bitCount = 0;
                value = 0;
            }
        }
    }
}
