/** Promise 13: at. */
public final class Promise13Test {
    private static final int UNKNOWN = Checks.UNKNOWN;
    private static final Checks C = new Checks("Promise 13");

    public static void main(String[] args) {
        theSample();
        unknown();
        C.finish();
    }

    private static void theSample() {
        C.sentence("The SAMPLE at a TICK.");
        TriggerLoom x = Looms.loom("a");
        Looms.samples(x, 0, 65535, 1, 32768, 32767);
        C.allDue("at", x::at, 0, 65535, 1, 32768, 32767, UNKNOWN);
        x.sendFrame(15, 1, 1);
        C.allDue("at, of a FRAME", tick -> x.at(5 + tick), 32767, 65535, 32767, 32767);
        x.arm();
        x.sample(9, 2);
        C.allDue("at, anew", x::at, 9, 9, UNKNOWN);
    }

    private static void unknown() {
        C.sentence("UNKNOWN.");
        TriggerLoom x = Looms.loom("a");
        C.due("none came", x.at(0), UNKNOWN);
        x.sample(3, 1);
        C.due("the first", x.at(0), 3);
        C.due("behind the latest", x.at(1), UNKNOWN);
        C.due("below 0", x.at(-1), UNKNOWN);
        C.due("MIN", x.at(Integer.MIN_VALUE), UNKNOWN);
        C.due("MAX", x.at(Integer.MAX_VALUE), UNKNOWN);
        Looms.comes(x, 4, 3998);
        x.sample(5, 1);
        C.due("the last of 4000", x.at(3999), 5);
        C.due("the one ahead of it", x.at(3998), 4);
        C.due("behind it", x.at(4000), UNKNOWN);
        x.arm();
        C.due("behind arm()", x.at(0), UNKNOWN);
        C.due("without a TRIGGER", new TriggerLoom().at(0), UNKNOWN);
        C.refused(Looms::busy, "at(17)", y -> y.at(17), UNKNOWN);
        C.refused(Looms::busy, "at(-1)", y -> y.at(-1), UNKNOWN);
    }
}
