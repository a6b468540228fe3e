/** Promise 12: when. */
public final class Promise12Test {
    private static final int NONE = Checks.NONE;
    private static final Checks C = new Checks("Promise 12");

    public static void main(String[] args) {
        inOrder();
        none();
        asManyAsCanBe();
        C.finish();
    }

    private static void inOrder() {
        C.sentence("The i-th TICK at which the TRIGGER HELD");
        TriggerLoom x = Looms.loom("a+");
        Looms.samples(x, 1, 0, 65535, 3, 2, 1, 1, 0, 1);
        C.allDue("when", x::when, 2, 5, 8, NONE, NONE);
        C.due("the first again", x.when(0), 2);
        x = Looms.loom("!a");
        x.sample(0, 3);
        C.allDue("from TICK 0", x::when, 0, 1, 2, NONE);
    }

    private static void none() {
        C.sentence("NONE");
        TriggerLoom x = Looms.loom("a");
        C.due("none came", x.when(0), NONE);
        x.sample(0, 5);
        C.due("none HELD", x.when(0), NONE);
        x.sample(1, 1);
        C.due("the first", x.when(0), 5);
        C.due("behind the last", x.when(1), NONE);
        C.due("below 0", x.when(-1), NONE);
        C.due("MIN", x.when(Integer.MIN_VALUE), NONE);
        C.due("MAX", x.when(Integer.MAX_VALUE), NONE);
        C.due("without a TRIGGER", new TriggerLoom().when(0), NONE);
        x.arm();
        C.due("behind arm()", x.when(0), NONE);
        x.sample(0, 6);
        C.due("TICKS ahead of arm() do not count", x.when(0), NONE);
        C.refused(Looms::busy, "when(1)", y -> y.when(1), NONE);
        C.refused(Looms::busy, "when(-1)", y -> y.when(-1), NONE);
    }

    private static void asManyAsCanBe() {
        C.sentence("The i-th TICK: the last of 4000");
        TriggerLoom x = Looms.withSamples(4000);
        C.due("the first", x.when(0), 0);
        C.due("the last", x.when(3999), 3999);
        C.due("behind it", x.when(4000), NONE);
        x.arm();
        Looms.comes(x, 0, 3999);
        x.sample(1, 1);
        C.due("TICK 3999 alone", x.when(0), 3999);
        C.due("no other", x.when(1), NONE);
    }
}
