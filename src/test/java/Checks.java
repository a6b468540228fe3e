/** Compares answers with what is due, and tells the ones that differ. */
final class Checks {
    static final int UNKNOWN = -1, BAD = -2, STATE = -3, FULL = -4, NONE = -9, CAST = -13;

    private final String name;
    private int passed;
    private int failed;

    Checks(String name) {
        this.name = name;
    }

    void due(String what, long got, long want) {
        if (got == want) {
            passed++;
            return;
        }
        failed++;
        System.out.println(name + ": " + what + " answered " + got + ", due is " + want);
    }

    /** The answers of count calls in a row, the index given to each. */
    void allDue(String what, java.util.function.IntUnaryOperator call, int... want) {
        for (int i = 0; i < want.length; i++) {
            due(what + " [" + i + "]", call.applyAsInt(i), want[i]);
        }
    }

    void finish() {
        System.out.println(name + ": " + passed + " answers as due, " + failed + " not");
        if (failed != 0 || passed == 0) {
            System.exit(1);
        }
    }

    /** Feeds a text whose signs are 1 to 255, eight bytes a call; the answer of the last call. */
    static int feed(TriggerLoom x, String text) {
        int answer = x.total(5);
        for (int from = 0; from < text.length(); from += 8) {
            long w = 0;
            for (int i = Math.min(from + 8, text.length()) - 1; i >= from; i--) {
                w = w << 8 | text.charAt(i);
            }
            answer = x.feed(w);
        }
        return answer;
    }

    /** A new object whose TRIGGER is the text. */
    static TriggerLoom loom(String text) {
        TriggerLoom x = new TriggerLoom();
        feed(x, text);
        if (x.read() <= 0) {
            throw new IllegalStateException("no TRIGGER: " + text);
        }
        return x;
    }

    /** One SAMPLE after the other. */
    static void samples(TriggerLoom x, int... bits) {
        for (int b : bits) {
            x.sample(b, 1);
        }
    }
}
