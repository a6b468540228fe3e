/** Promise 10: waits. */
public final class Promise10Test {
    private static final int UNKNOWN = Checks.UNKNOWN, NONE = Checks.NONE;
    private static final Checks C = new Checks("Promise 10");

    public static void main(String[] args) {
        counted();
        armed();
        behindTheLatest();
        timed();
        others();
        unknown();
        C.finish();
    }

    private static void counted() {
        C.sentence("COUNTED: how many times the NODE within held");
        TriggerLoom x = Looms.loom("3*a");
        C.due("none came", x.waits(1), 0);
        x.sample(0, 1);
        C.due("it did not", x.waits(1), 0);
        x.sample(1, 1);
        C.due("once", x.waits(1), 1);
        x.sample(1, 2);
        C.due("three times, and HELD", x.waits(1), 3);
        x.sample(1, 1);
        C.due("it goes on behind that", x.waits(1), 4);
        Looms.comes(x, 1, 3995);
        C.due("as often as can be", x.waits(1), 3999);
        x.arm();
        C.due("behind arm()", x.waits(1), 0);
        x = Looms.loom("2*3*a");
        x.sample(1, 7);
        C.due("the one within", x.waits(1), 7);
        C.due("the one around", x.waits(2), 2);
    }

    private static void armed() {
        C.sentence("ARMED: the TICK from which it WAITS; NONE: from none");
        TriggerLoom x = Looms.loom("a;b");
        C.due("none came", x.waits(2), NONE);
        x.sample(2, 1);
        C.due("its second NODE alone", x.waits(2), NONE);
        x.sample(1, 1);
        C.due("from TICK 1", x.waits(2), 1);
        x.sample(1, 5);
        C.due("from TICK 1 still", x.waits(2), 1);
        x.arm();
        C.due("behind arm()", x.waits(2), NONE);
        x.sample(1, 1);
        C.due("from TICK 0", x.waits(2), 0);
        x.arm();
        Looms.comes(x, 0, 3999);
        x.sample(1, 1);
        C.due("from TICK 3999", x.waits(2), 3999);
    }

    private static void behindTheLatest() {
        C.sentence("(behind the latest one)");
        TriggerLoom x = Looms.loom("a;b");
        x.sample(1, 1);
        C.due("the latest TICK counts", x.waits(2), 0);
        x.sample(3, 1);
        C.due("it HELD at the latest TICK", x.waits(2), NONE);
        x.sample(3, 1);
        C.due("from the latest TICK", x.waits(2), 2);
    }

    private static void timed() {
        C.sentence("ARMED (TIMED, too): the TICK from which it WAITS; NONE: from none");
        TriggerLoom x = Looms.loom("a;2,3:b");
        Looms.samples(x, 1, 2);
        C.due("nearer than the first NUMBER", x.waits(2), 0);
        x.sample(0, 2);
        C.due("as far back as the second NUMBER", x.waits(2), 0);
        x.sample(0, 1);
        C.due("further back", x.waits(2), NONE);
        Looms.samples(x, 1, 0, 2);
        C.due("it HELD", x.waits(2), NONE);
        Looms.samples(x, 1, 0, 0, 0, 1);
        C.due("anew", x.waits(2), 12);
    }

    private static void others() {
        C.sentence("others: NONE");
        TriggerLoom x = Looms.loom("!a/b~&c");
        C.allDue("none came", x::waits, NONE, NONE, NONE, NONE, NONE, NONE, UNKNOWN);
        x.sample(7, 3);
        C.allDue("some came", x::waits, NONE, NONE, NONE, NONE, NONE, NONE, UNKNOWN);
    }

    private static void unknown() {
        C.sentence("UNKNOWN");
        TriggerLoom x = Looms.loom("2*a" + ";2*a".repeat(14));
        x.sample(1, 1);
        C.due("below the first", x.waits(-1), UNKNOWN);
        C.due("the second", x.waits(1), 1);
        C.due("the last", x.waits(43), NONE);
        C.due("the one ahead of it", x.waits(42), 1);
        C.due("behind the last", x.waits(44), UNKNOWN);
        C.due("MAX", x.waits(Integer.MAX_VALUE), UNKNOWN);
        C.due("MIN", x.waits(Integer.MIN_VALUE), UNKNOWN);
        C.due("without a TRIGGER", new TriggerLoom().waits(0), UNKNOWN);
        C.refused(Looms::busy, "waits(4)", y -> y.waits(4), UNKNOWN);
        C.refused(Looms::busy, "waits(-1)", y -> y.waits(-1), UNKNOWN);
    }
}
