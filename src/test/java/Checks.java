import java.util.function.IntUnaryOperator;
import java.util.function.Supplier;
import java.util.function.ToIntFunction;

/** Compares answers with what is due, and tells the ones that differ, with the document's sentence that they are about. */
final class Checks {
    static final int UNKNOWN = -1, BAD = -2, STATE = -3, FULL = -4, NONE = -9, CAST = -13;

    private final String name;
    private String sentence = "";
    private int sentences;
    private int passed;
    private int failed;

    Checks(String name) {
        this.name = name;
    }

    /** What follows is about a sentence of the document, or a part of one. */
    void sentence(String words) {
        sentence = words;
        sentences++;
    }

    void due(String what, long got, long want) {
        if (got == want) {
            passed++;
            return;
        }
        failed++;
        System.out.println(name + (sentence.isEmpty() ? ": " : " (" + sentence + "): ") + what + " answered " + got + ", due is " + want);
    }

    /** The answers of calls in a row, the index given to each. */
    void allDue(String what, IntUnaryOperator call, int... want) {
        for (int i = 0; i < want.length; i++) {
            due(what + " [" + i + "]", call.applyAsInt(i), want[i]);
        }
    }

    /**
     * A call that is refused: its answer, and that the object that was asked tells the same as a twin that was not,
     * right behind the call and when both have gone on.
     */
    void refused(Supplier<TriggerLoom> made, String what, ToIntFunction<TriggerLoom> call, int want) {
        TriggerLoom asked = made.get();
        TriggerLoom twin = made.get();
        due(what, call.applyAsInt(asked), want);
        alike(what + ", right behind it", asked, twin);
        Looms.goOn(asked);
        Looms.goOn(twin);
        alike(what + ", later", asked, twin);
    }

    void alike(String what, TriggerLoom asked, TriggerLoom twin) {
        String got = Looms.tell(asked);
        String want = Looms.tell(twin);
        due(what + ", whether '" + got + "' is '" + want + "'", got.equals(want) ? 1 : 0, 1);
    }

    /** A text without a FAULT: how many NODES. */
    void reads(String text, int nodes) {
        TriggerLoom x = new TriggerLoom();
        due("feed of '" + text + "'", Looms.feed(x, text), text.length());
        due("read of '" + text + "'", x.read(), nodes);
        due("fault of '" + text + "'", x.fault(), 0);
        due("NODES of '" + text + "'", x.total(0), nodes);
        due("THE TAPE behind '" + text + "'", x.total(5), 0);
    }

    /** A text with a FAULT: its PLACE, its kind. */
    void faults(String text, int place, int kind) {
        TriggerLoom x = new TriggerLoom();
        due("feed of '" + text + "'", Looms.feed(x, text), text.length());
        due("read of '" + text + "'", x.read(), -100 - place);
        due("fault of '" + text + "'", x.fault(), kind);
        due("NODES of '" + text + "'", x.total(0), 0);
        due("THE TAPE behind '" + text + "'", x.total(5), text.length());
    }

    /** Of a NODE: its KIND, and what it has as 1 to 4. */
    void node(TriggerLoom x, int n, int... want) {
        allDue("node(" + n + ", 8, ..)", what -> x.node(n, 8, what), want);
    }

    /** Of a MARK: its kind, its BYTE, its TICK. */
    void mark(TriggerLoom x, int i, int... want) {
        allDue("mark(" + i + ", ..)", what -> x.mark(i, what), want);
    }

    /** The TICKS at which a text HOLDS, over SAMPLES of a digit each (a: 1, b: 2, c: 4). */
    void hits(String text, String digits, int... want) {
        TriggerLoom x = Looms.loom(text);
        int held = 0;
        for (int i = 0; i < digits.length(); i++) {
            held += x.sample(digits.charAt(i) - '0', 1);
        }
        String what = "'" + text + "' over " + digits;
        due(what + ", total(2)", x.total(2), want.length);
        due(what + ", told by sample", held, want.length);
        allDue(what + ", when", x::when, want);
        for (int tick = 0, i = 0; tick < digits.length(); tick++) {
            boolean due = i < want.length && want[i] == tick;
            i += due ? 1 : 0;
            due(what + ", held(" + tick + ")", x.held(tick), due ? 1 : 0);
        }
    }

    void finish() {
        String about = sentences == 0 ? "" : sentences + " sentences, ";
        System.out.println(name + ": " + about + passed + " answers as due, " + failed + " not");
        if (failed != 0 || passed == 0) {
            System.exit(1);
        }
    }
}
