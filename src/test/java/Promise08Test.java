/** Promise 8: sample. */
public final class Promise08Test {
    private static final int BAD = Checks.BAD, STATE = Checks.STATE, FULL = Checks.FULL, NONE = Checks.NONE;
    private static final Checks C = new Checks("Promise 8");

    public static void main(String[] args) {
        soManyTimes();
        atHowManyTicks();
        bits();
        times();
        noTrigger();
        full();
        fullChangesNothing();
        C.finish();
    }

    private static void soManyTimes() {
        C.sentence("A SAMPLE, n times");
        TriggerLoom x = Looms.loom("a");
        x.sample(5, 1);
        x.sample(6, 3);
        x.sample(7, 2);
        C.allDue("at", x::at, 5, 6, 6, 6, 7, 7, Checks.UNKNOWN);
        C.due("total(1)", x.total(1), 6);
    }

    private static void atHowManyTicks() {
        C.sentence("at how many of these TICKS the TRIGGER HOLDS");
        TriggerLoom x = Looms.loom("a;b");
        C.due("sample(3, 7)", x.sample(3, 7), 3);
        C.due("of these alone: sample(0, 10)", x.sample(0, 10), 0);
        C.due("sample(3, 1000)", x.sample(3, 1000), 500);
        C.due("total(2)", x.total(2), 503);
        x = Looms.loom("a~");
        C.due("an EDGE at one of 1000", x.sample(0, 1) + x.sample(1, 1000), 1);
        C.due("none", x.sample(1, 1000), 0);
    }

    private static void bits() {
        C.sentence("a SAMPLE (0 .. 65535); BAD");
        TriggerLoom x = Looms.loom("p");
        C.due("the least", x.sample(0, 1), 0);
        C.due("the greatest", x.sample(65535, 1), 1);
        C.due("at the latest TICK", x.at(1), 65535);
        for (int wrong : new int[] {-1, 65536, Integer.MIN_VALUE, Integer.MAX_VALUE}) {
            C.refused(Looms::busy, "sample(" + wrong + ", 1)", y -> y.sample(wrong, 1), BAD);
        }
    }

    private static void times() {
        C.sentence("n times (1 .. 1000); BAD");
        TriggerLoom x = Looms.loom("a");
        C.due("once", x.sample(1, 1), 1);
        C.due("1000 times", x.sample(1, 1000), 1000);
        C.due("total(1)", x.total(1), 1001);
        for (int wrong : new int[] {0, -1, 1001, Integer.MIN_VALUE, Integer.MAX_VALUE}) {
            C.refused(Looms::busy, "sample(0, " + wrong + ")", y -> y.sample(0, wrong), BAD);
        }
    }

    private static void noTrigger() {
        C.sentence("STATE: there is no TRIGGER");
        C.refused(TriggerLoom::new, "sample(0, 1)", x -> x.sample(0, 1), STATE);
        C.refused(Looms::idle, "sample(65535, 1000)", x -> x.sample(65535, 1000), STATE);
    }

    private static void full() {
        C.sentence("FULL: more than 4000 would have come.");
        TriggerLoom x = Looms.withSamples(3000);
        C.due("1000 to 4000", x.sample(1, 1000), 1000);
        C.due("total(1)", x.total(1), 4000);
        C.due("at the last", x.at(3999), 1);
        C.due("held at the last", x.held(3999), 1);
        C.due("when, the last", x.when(3999), 3999);
        C.due("when, behind the last", x.when(4000), NONE);
        C.due("1 to 4001", x.sample(1, 1), FULL);
        x.arm();
        C.due("behind arm()", x.sample(1, 1), 1);
        x = Looms.withSamples(3999);
        C.due("1 to 4000", x.sample(0, 1), 0);
        C.due("1 to 4001", x.sample(0, 1), FULL);
        C.due("1000 to 5000", x.sample(0, 1000), FULL);
    }

    private static void fullChangesNothing() {
        C.sentence("FULL; what is refused changes nothing");
        C.refused(() -> Looms.withSamples(3999), "2 to 4001", x -> x.sample(0, 2), FULL);
        C.refused(() -> Looms.withSamples(3001), "1000 to 4001", x -> x.sample(0, 1000), FULL);
        C.refused(() -> Looms.withSamples(4000), "1 to 4001", x -> x.sample(0, 1), FULL);
        TriggerLoom x = Looms.withSamples(3999);
        x.sample(0, 2);
        C.due("none of two came", x.total(1), 3999);
        C.due("there is room for one still", x.sample(1, 1), 1);
    }
}
