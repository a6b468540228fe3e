/** Promise 7: arm. */
public final class Promise07Test {
    private static final int UNKNOWN = Checks.UNKNOWN, STATE = Checks.STATE, NONE = Checks.NONE;
    private static final Checks C = new Checks("Promise 7");

    public static void main(String[] args) {
        howMany();
        noSamples();
        nothingHoldsWaitsIsCounted();
        goesOnFromTheBeginning();
        allElseStays();
        state();
        C.finish();
    }

    private static void howMany() {
        C.sentence("how many there were");
        TriggerLoom x = Looms.loom("a");
        C.due("arm() of none", x.arm(), 0);
        x.sample(1, 1);
        C.due("arm() of one", x.arm(), 1);
        C.due("arm() again", x.arm(), 0);
        Looms.comes(x, 1, 4000);
        C.due("arm() of 4000", x.arm(), 4000);
        Looms.comes(x, 1, 4000);
        C.due("4000 anew", x.total(1), 4000);
    }

    private static void noSamples() {
        C.sentence("No SAMPLES have come");
        TriggerLoom x = Looms.loom("a");
        Looms.samples(x, 1, 0, 1);
        x.arm();
        C.due("total(1)", x.total(1), 0);
        C.due("total(2)", x.total(2), 0);
        C.due("at(0)", x.at(0), UNKNOWN);
        C.due("held(0)", x.held(0), UNKNOWN);
        C.due("when(0)", x.when(0), NONE);
        C.due("grab(0, 0, 0)", x.grab(0, 0, 0), UNKNOWN);
        C.due("frames(0, 1)", x.frames(0, 1), 0);
    }

    private static void nothingHoldsWaitsIsCounted() {
        C.sentence("nothing HOLDS, WAITS, is counted");
        TriggerLoom x = Looms.loom("3*a;1,9:b+;c");
        Looms.samples(x, 1, 1, 1, 2, 1, 1, 1);
        C.due("counted", x.waits(1), 6);
        C.due("the first WAITS", x.waits(3), 6);
        C.due("the second WAITS", x.waits(5), 3);
        C.due("HOLDS", x.holds(0), 1);
        C.due("arm()", x.arm(), 7);
        C.allDue("holds", x::holds, 0, 0, 0, 0, 0, 0, UNKNOWN);
        C.allDue("waits", x::waits, NONE, 0, NONE, NONE, NONE, NONE, UNKNOWN);
    }

    private static void goesOnFromTheBeginning() {
        C.sentence("No SAMPLES have come, nothing HOLDS, WAITS, is counted");
        TriggerLoom x = Looms.loom("3*a;b+");
        Looms.samples(x, 1, 1, 1);
        x.arm();
        C.due("b, that would have HELD", x.sample(2, 1), 0);
        Looms.samples(x, 1, 1);
        C.due("counted from arm()", x.waits(1), 2);
        x.arm();
        Looms.samples(x, 3, 1, 1, 3);
        C.due("TICKS from 0, and no EDGE at the first", x.when(0), 3);
        C.due("total(2)", x.total(2), 1);
        C.due("arm()", x.arm(), 4);
        x.sendFrame(5, 1, 255);
        C.due("WIRES at no latest TICK are 0", x.at(0), 0);
    }

    private static void allElseStays() {
        C.sentence("No SAMPLES have come: what is CAUGHT, MARKS, THE TAPE, the FAULT, NODES are as they were");
        TriggerLoom x = Looms.busy();
        x.arm();
        C.allDue("total", x::total, 4, 0, 0, 3, 1, 2);
        C.allDue("caught", x::caught, 0, 2, 1, NONE);
        C.mark(x, 0, 0, 0xA5, 0);
        C.due("fault()", x.fault(), 1);
        C.node(x, 3, 7, 1, 2, 1, 3);
        C.due("THE TAPE", x.cut(), 2);
    }

    private static void state() {
        C.sentence("STATE: there is no TRIGGER.");
        C.due("a new object", new TriggerLoom().arm(), STATE);
        C.refused(Looms::idle, "arm()", TriggerLoom::arm, STATE);
        TriggerLoom x = Looms.loom("a");
        Looms.feed(x, "?");
        x.read();
        C.due("a FAULT leaves the TRIGGER", x.arm(), 0);
    }
}
