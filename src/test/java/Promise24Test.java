/** Promise 24: total. */
public final class Promise24Test {
    private static final int BAD = Checks.BAD;
    private static final Checks C = new Checks("Promise 24");

    public static void main(String[] args) {
        none();
        some();
        nodes();
        samples();
        ticksHeld();
        caught();
        marks();
        tape();
        bad();
        C.finish();
    }

    private static void none() {
        C.sentence("0 NODES, 1 SAMPLES, 2 TICKS at which the TRIGGER HELD, 3 SAMPLES that are CAUGHT, 4 MARKS, 5 bytes of THE TAPE");
        C.allDue("a new object", new TriggerLoom()::total, 0, 0, 0, 0, 0, 0, BAD);
    }

    private static void some() {
        C.sentence("0 NODES, 1 SAMPLES, 2 TICKS at which the TRIGGER HELD, 3 SAMPLES that are CAUGHT, 4 MARKS, 5 bytes of THE TAPE");
        TriggerLoom x = Looms.loom("!a&b");
        Looms.feed(x, "abc");
        x.sample(2, 5);
        x.sample(3, 4);
        x.grab(4, 2, 1);
        x.frames(0, 1);
        C.allDue("total", x::total, 4, 9, 5, 4, 0, 3);
        x.sendFrame(0, 1, 255);
        x.frames(0, 1);
        C.allDue("total behind a FRAME", x::total, 4, 19, 6, 4, 1, 3);
    }

    private static void nodes() {
        C.sentence("0 NODES");
        C.due("the fewest", Looms.loom("a").total(0), 1);
        C.due("the most", Looms.loom("!a" + "&a".repeat(29)).total(0), 60);
        TriggerLoom x = Looms.loom("a&b");
        Looms.feed(x, "?");
        x.read();
        C.due("behind a FAULT", x.total(0), 3);
        x.arm();
        C.due("behind arm()", x.total(0), 3);
    }

    private static void samples() {
        C.sentence("1 SAMPLES");
        TriggerLoom x = Looms.withSamples(3999);
        C.due("one fewer than the most", x.total(1), 3999);
        x.sample(1, 1);
        C.due("the most", x.total(1), 4000);
        x.sample(1, 1);
        C.due("behind FULL", x.total(1), 4000);
        x.arm();
        C.due("behind arm()", x.total(1), 0);
    }

    private static void ticksHeld() {
        C.sentence("2 TICKS at which the TRIGGER HELD");
        TriggerLoom x = Looms.withSamples(4000);
        C.due("the most", x.total(2), 4000);
        x.sample(1, 1);
        C.due("behind FULL", x.total(2), 4000);
        x.arm();
        C.due("behind arm()", x.total(2), 0);
        x.sample(0, 1000);
        C.due("none", x.total(2), 0);
        x.sample(1, 1);
        C.due("one", x.total(2), 1);
    }

    private static void caught() {
        C.sentence("3 SAMPLES that are CAUGHT");
        TriggerLoom x = Looms.withSamples(2000);
        C.due("none", x.total(3), 0);
        x.grab(1000, 500, 500);
        C.due("the most", x.total(3), 1001);
        x.grab(1000, 501, 0);
        C.due("behind BAD", x.total(3), 1001);
        x.grab(0, 500, 0);
        C.due("one", x.total(3), 1);
    }

    private static void marks() {
        C.sentence("4 MARKS");
        TriggerLoom x = Looms.loom("a");
        for (int i = 0; i < 100; i++) {
            x.sendFrame(0, 1, 0x55);
        }
        C.due("none are read", x.total(4), 0);
        x.frames(0, 1);
        C.due("100", x.total(4), 100);
        x.frames(0, 2);
        C.due("the most", x.total(4), 400);
        x.frames(0, 21);
        C.due("behind BAD", x.total(4), 400);
        x.bytes(0, 1);
        C.due("none", x.total(4), 0);
    }

    private static void tape() {
        C.sentence("5 bytes of THE TAPE");
        TriggerLoom x = new TriggerLoom();
        for (int i = 1; i <= 60; i++) {
            x.feed(' ');
            C.due("total(5)", x.total(5), i);
        }
        x.feed(' ');
        C.due("behind FULL", x.total(5), 60);
        x.read();
        C.due("behind a FAULT", x.total(5), 60);
        x.cut();
        C.due("behind cut", x.total(5), 0);
        Looms.feed(x, "a");
        x.read();
        C.due("behind read", x.total(5), 0);
    }

    private static void bad() {
        C.sentence("BAD.");
        C.due("the greatest", Looms.busy().total(5), 2);
        C.due("the least", Looms.busy().total(0), 4);
        for (int what : new int[] {-1, 6, Integer.MIN_VALUE, Integer.MAX_VALUE}) {
            C.refused(Looms::busy, "total(" + what + ")", x -> x.total(what), BAD);
        }
        C.due("of a new object", new TriggerLoom().total(6), BAD);
    }
}
