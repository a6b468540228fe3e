/** Makes objects for the tests, and tells all that one tells. */
final class Looms {
    static final int CLOCK = 7, DATA = 3;

    private Looms() {
    }

    /** Feeds a text whose signs are 1 to 255, eight bytes a call; the answer of the last call. */
    static int feed(TriggerLoom x, String text) {
        int answer = x.total(5);
        for (int from = 0; from < text.length(); from += 8) {
            answer = x.feed(word(text.substring(from, Math.min(from + 8, text.length()))));
        }
        return answer;
    }

    /** Eight signs at most, the first the lowest. */
    static long word(String signs) {
        long w = 0;
        for (int i = signs.length() - 1; i >= 0; i--) {
            w = w << 8 | signs.charAt(i);
        }
        return w;
    }

    /** A new object whose TRIGGER is the text. */
    static TriggerLoom loom(String text) {
        TriggerLoom x = new TriggerLoom();
        feed(x, text);
        if (x.read() <= 0) {
            throw new IllegalStateException("no TRIGGER: " + text);
        }
        return x;
    }

    /** One SAMPLE after the other. */
    static void samples(TriggerLoom x, int... bits) {
        for (int b : bits) {
            x.sample(b, 1);
        }
    }

    /** One SAMPLE many times. */
    static void comes(TriggerLoom x, int bits, int times) {
        for (int left = times; left > 0; left -= 1000) {
            x.sample(bits, Math.min(left, 1000));
        }
    }

    /** WIRE a at each TICK. */
    static TriggerLoom wave(String levels) {
        TriggerLoom x = loom("a");
        for (int i = 0; i < levels.length(); i++) {
            x.sample(levels.charAt(i) - '0', 1);
        }
        return x;
    }

    /** CLOCK and DATA at each TICK: 0 none is 1, 1 DATA is, 2 CLOCK, 3 both. */
    static TriggerLoom two(String levels) {
        TriggerLoom x = loom("a");
        twoCome(x, levels);
        return x;
    }

    static void twoCome(TriggerLoom x, String levels) {
        for (int i = 0; i < levels.length(); i++) {
            int both = levels.charAt(i) - '0';
            x.sample((both >> 1) << CLOCK | (both & 1) << DATA, 1);
        }
    }

    /** So many SAMPLES have come; WIRE a is the TRIGGER, and 1. */
    static TriggerLoom withSamples(int size) {
        TriggerLoom x = loom("a");
        comes(x, 1, size);
        return x;
    }

    /** 1001 SAMPLES are CAUGHT, each other than the one ahead: WIRE a is 0, 1, 0, .. , all others are 0. */
    static TriggerLoom noneAlike() {
        TriggerLoom x = loom("!p");
        for (int i = 0; i < 120; i++) {
            x.sendFrame(0, 1, 0x55);
        }
        x.grab(600, 500, 500);
        return x;
    }

    /** No TRIGGER, but a TAPE that was read with a FAULT. */
    static TriggerLoom idle() {
        TriggerLoom x = new TriggerLoom();
        feed(x, "b;");
        x.read();
        return x;
    }

    /**
     * Of everything some: NODES of four KINDS, 17 SAMPLES, a TICK (13) at which it HELD, one (15) from which it WAITS,
     * five times counted, three SAMPLES CAUGHT, one MARK, a TAPE of two bytes, and a FAULT.
     */
    static TriggerLoom busy() {
        TriggerLoom x = loom("2*a;1,3:b");
        feed(x, "c;");
        x.read();
        x.sendFrame(2, 1, 0xA5);
        samples(x, 1, 1, 0, 2, 1, 1, 1);
        x.grab(0, 1, 1);
        x.frames(2, 1);
        return x;
    }

    /** What shows later if something changed that cannot be asked for. */
    static void goOn(TriggerLoom x) {
        x.sample(2, 1);
        x.sample(3, 3);
        x.bytes(0, 1);
        x.feed(word("d"));
        x.read();
        x.sample(8, 2);
    }

    /** What an object tells, by some 110 calls at most. */
    static String tell(TriggerLoom x) {
        StringBuilder told = new StringBuilder("fault " + x.fault() + " total");
        for (int what = 0; what <= 5; what++) {
            told.append(' ').append(x.total(what));
        }
        for (int n = 0; n < Math.min(x.total(0), 6); n++) {
            told.append(" node ").append(x.holds(n)).append(' ').append(x.waits(n));
            for (int what = 0; what <= 4; what++) {
                told.append(' ').append(x.node(n, 8, what));
            }
        }
        tellSamples(x, told);
        for (int r = 0; r < Math.min(x.runs(), 3); r++) {
            told.append(" run ").append(x.run(r, 0)).append(' ').append(x.run(r, 1));
        }
        for (int i = 0; i < Math.min(x.total(4), 4); i++) {
            int mark = i < 2 ? i : x.total(4) - i + 1;
            told.append(" mark ").append(x.mark(mark, 0)).append(' ').append(x.mark(mark, 1)).append(' ').append(x.mark(mark, 2));
        }
        return told.toString();
    }

    private static void tellSamples(TriggerLoom x, StringBuilder told) {
        int size = x.total(1);
        for (int i = 0; i < Math.min(size, 12); i++) {
            int tick = i < 3 || size <= 12 ? i : size - 12 + i;
            told.append(" at ").append(x.at(tick)).append(' ').append(x.held(tick));
        }
        told.append(" when ").append(x.when(0)).append(' ').append(x.when(x.total(2) - 1));
        told.append(" caught");
        for (int k = 0; k < 4; k++) {
            told.append(' ').append(x.caught(k));
        }
        told.append(' ').append(x.caught(x.total(3) - 1)).append(' ').append(x.squeezed(1)).append(' ').append(x.runs());
    }
}
