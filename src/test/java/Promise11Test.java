/** Promise 11: held. */
public final class Promise11Test {
    private static final int UNKNOWN = Checks.UNKNOWN;
    private static final Checks C = new Checks("Promise 11");

    public static void main(String[] args) {
        atATick();
        anewFromAllSamples();
        asksWithoutGoingOn();
        didNotCome();
        C.finish();
    }

    private static void atATick() {
        C.sentence("Whether the TRIGGER HELD at a TICK: 1, 0");
        TriggerLoom x = Looms.loom("a+");
        Looms.samples(x, 1, 0, 65535, 3, 2, 1);
        C.allDue("held", x::held, 0, 0, 1, 0, 0, 1, UNKNOWN);
    }

    private static void anewFromAllSamples() {
        C.sentence("worked out anew from all SAMPLES");
        TriggerLoom x = Looms.loom("2*a;2,3:b");
        Looms.samples(x, 1, 1, 2, 2, 1, 1, 0, 2, 0, 1, 1, 0, 0, 2, 2);
        int[] due = {0, 0, 0, 1, 0, 0, 0, 1, 0, 0, 0, 0, 0, 1, 0, UNKNOWN};
        C.allDue("held, from the first", x::held, due);
        for (int tick = due.length - 1; tick >= 0; tick--) {
            C.due("held, from the last [" + tick + "]", x.held(tick), due[tick]);
        }
        for (int i = 0; i < x.total(2); i++) {
            C.due("held(when(" + i + "))", x.held(x.when(i)), 1);
        }
    }

    private static void asksWithoutGoingOn() {
        C.sentence("worked out anew: what HOLDS, WAITS, is counted stays");
        TriggerLoom x = Looms.busy();
        for (int tick = 0; tick <= 17; tick++) {
            C.due("held(" + tick + ")", x.held(tick), tick == 17 ? UNKNOWN : tick == 13 ? 1 : 0);
        }
        C.alike("behind held", x, Looms.busy());
    }

    private static void didNotCome() {
        C.sentence("UNKNOWN: it did not come.");
        TriggerLoom x = Looms.loom("a");
        C.due("none came", x.held(0), UNKNOWN);
        x.sample(1, 1);
        C.due("the first", x.held(0), 1);
        C.due("behind the latest", x.held(1), UNKNOWN);
        C.due("below 0", x.held(-1), UNKNOWN);
        C.due("MIN", x.held(Integer.MIN_VALUE), UNKNOWN);
        C.due("MAX", x.held(Integer.MAX_VALUE), UNKNOWN);
        Looms.comes(x, 1, 3999);
        C.due("the last of 4000", x.held(3999), 1);
        C.due("behind it", x.held(4000), UNKNOWN);
        x.arm();
        C.due("behind arm()", x.held(0), UNKNOWN);
        C.due("without a TRIGGER", new TriggerLoom().held(0), UNKNOWN);
        C.refused(Looms::busy, "held(17)", y -> y.held(17), UNKNOWN);
        C.refused(Looms::busy, "held(-1)", y -> y.held(-1), UNKNOWN);
    }
}
