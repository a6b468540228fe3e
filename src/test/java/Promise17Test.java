/** Promise 17: run. */
public final class Promise17Test {
    private static final int UNKNOWN = Checks.UNKNOWN, BAD = Checks.BAD;
    private static final Checks C = new Checks("Promise 17");

    public static void main(String[] args) {
        sampleAndLength();
        asManyAsCanBe();
        noSuchRun();
        badWhat();
        C.finish();
    }

    private static void sampleAndLength() {
        C.sentence("Run r: its SAMPLE (what = 0), how many (1).");
        TriggerLoom x = Looms.loom("p");
        Looms.samples(x, 1, 1, 2, 32768, 32768, 32768, 1, 1, 1, 1, 0);
        x.grab(0, 500, 500);
        C.allDue("run(r, 0)", r -> x.run(r, 0), 1, 2, 32768, 1, 0, UNKNOWN);
        C.allDue("run(r, 1)", r -> x.run(r, 1), 2, 1, 3, 4, 1, UNKNOWN);
        x.grab(1, 3, 1);
        C.allDue("run(r, 0), of fewer", r -> x.run(r, 0), 1, 2, 32768, UNKNOWN);
        C.allDue("run(r, 1), of fewer", r -> x.run(r, 1), 1, 1, 3, UNKNOWN);
        x.grab(0, 0, 0);
        C.allDue("of one", what -> x.run(0, what), 32768, 1, BAD);
    }

    private static void asManyAsCanBe() {
        C.sentence("Run r: of 1001 SAMPLES");
        TriggerLoom x = Looms.withSamples(1200);
        x.grab(600, 500, 500);
        C.due("one run", x.run(0, 1), 1001);
        C.due("no second", x.run(1, 1), UNKNOWN);
        TriggerLoom y = Looms.noneAlike();
        C.allDue("the first", what -> y.run(0, what), 0, 1);
        C.allDue("the last but one", what -> y.run(999, what), 1, 1);
        C.allDue("the last", what -> y.run(1000, what), 0, 1);
        C.allDue("behind it", what -> y.run(1001, what), UNKNOWN, UNKNOWN);
    }

    private static void noSuchRun() {
        C.sentence("UNKNOWN: no such run");
        C.due("a new object", new TriggerLoom().run(0, 0), UNKNOWN);
        TriggerLoom x = Looms.loom("a");
        x.sample(1, 3);
        C.due("nothing is CAUGHT", x.run(0, 0), UNKNOWN);
        for (int r : new int[] {3, -1, Integer.MIN_VALUE, Integer.MAX_VALUE}) {
            C.refused(Looms::busy, "run(" + r + ", 0)", y -> y.run(r, 0), UNKNOWN);
            C.refused(Looms::busy, "run(" + r + ", 1)", y -> y.run(r, 1), UNKNOWN);
        }
        C.due("the last", Looms.busy().run(2, 1), 1);
    }

    private static void badWhat() {
        C.sentence("BAD.");
        for (int what : new int[] {2, -1, Integer.MIN_VALUE, Integer.MAX_VALUE}) {
            C.refused(Looms::busy, "run(0, " + what + ")", y -> y.run(0, what), BAD);
            C.refused(Looms::busy, "run(2, " + what + ")", y -> y.run(2, what), BAD);
        }
    }
}
