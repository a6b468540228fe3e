/** Promise 15: caught. */
public final class Promise15Test {
    private static final int NONE = Checks.NONE;
    private static final Checks C = new Checks("Promise 15");

    public static void main(String[] args) {
        sampleK();
        none();
        asManyAsCanBe();
        C.finish();
    }

    private static void sampleK() {
        C.sentence("SAMPLE k that is CAUGHT");
        TriggerLoom x = Looms.loom("p");
        Looms.samples(x, 0, 1, 65535, 2, 32767);
        x.grab(0, 2, 2);
        C.allDue("caught", x::caught, 0, 1, 65535, 2, 32767, NONE);
        x.grab(0, 1, 0);
        C.allDue("from the first that is CAUGHT", x::caught, 1, 65535, NONE);
    }

    private static void none() {
        C.sentence("NONE");
        C.due("a new object", new TriggerLoom().caught(0), NONE);
        TriggerLoom x = Looms.loom("a");
        x.sample(1, 3);
        C.due("nothing is CAUGHT", x.caught(0), NONE);
        x.grab(1, 0, 0);
        C.due("the first", x.caught(0), 1);
        C.due("behind the last", x.caught(1), NONE);
        C.due("below the first", x.caught(-1), NONE);
        C.due("MIN", x.caught(Integer.MIN_VALUE), NONE);
        C.due("MAX", x.caught(Integer.MAX_VALUE), NONE);
        C.refused(Looms::busy, "caught(3)", y -> y.caught(3), NONE);
        C.refused(Looms::busy, "caught(-1)", y -> y.caught(-1), NONE);
    }

    private static void asManyAsCanBe() {
        C.sentence("SAMPLE k: the last of 1001");
        TriggerLoom x = Looms.loom("a");
        x.sample(2, 1);
        x.sample(4, 499);
        x.sample(1, 1);
        x.sample(6, 499);
        x.sample(8, 1);
        x.grab(0, 500, 500);
        C.due("the first", x.caught(0), 2);
        C.due("the middle", x.caught(500), 1);
        C.due("the last", x.caught(1000), 8);
        C.due("behind it", x.caught(1001), NONE);
    }
}
