/** Promise 14: grab. */
public final class Promise14Test {
    private static final int UNKNOWN = Checks.UNKNOWN, BAD = Checks.BAD, NONE = Checks.NONE;
    private static final Checks C = new Checks("Promise 14");

    public static void main(String[] args) {
        aroundATick();
        noneToFiveHundred();
        asFarAsSamplesCame();
        atTheLastTicks();
        insteadOfOthers();
        caughtIsKept();
        noSuchTick();
        aheadOrBehindIsBad();
        C.finish();
    }

    private static void aroundATick() {
        C.sentence("Around the i-th TICK at which the TRIGGER HELD, so many ahead, so many behind: how many");
        TriggerLoom x = Looms.loom("a");
        Looms.samples(x, 10, 20, 30, 41, 50, 61, 70, 80);
        C.due("grab(0, 2, 1)", x.grab(0, 2, 1), 4);
        C.allDue("caught", x::caught, 20, 30, 41, 50, NONE);
        C.due("grab(1, 1, 2)", x.grab(1, 1, 2), 4);
        C.allDue("caught", x::caught, 50, 61, 70, 80, NONE);
        C.due("grab(0, 3, 4), all", x.grab(0, 3, 4), 8);
        C.due("total(3)", x.total(3), 8);
    }

    private static void noneToFiveHundred() {
        C.sentence("(0 .. 500 each)");
        TriggerLoom x = Looms.loom("a");
        x.sample(2, 100);
        x.sample(4, 500);
        x.sample(1, 1);
        x.sample(6, 500);
        x.sample(8, 100);
        C.due("0 each", x.grab(0, 0, 0), 1);
        C.allDue("caught", x::caught, 1, NONE);
        C.due("500 ahead", x.grab(0, 500, 0), 501);
        C.due("the first", x.caught(0), 4);
        C.due("the last", x.caught(500), 1);
        C.due("behind it", x.caught(501), NONE);
        C.due("500 behind", x.grab(0, 0, 500), 501);
        C.due("the first", x.caught(0), 1);
        C.due("the last", x.caught(500), 6);
        C.due("500 each", x.grab(0, 500, 500), 1001);
        C.allDue("runs", r -> x.run(r, 0), 4, 1, 6, UNKNOWN);
        C.allDue("their lengths", r -> x.run(r, 1), 500, 1, 500, UNKNOWN);
        C.due("501 ahead", x.grab(0, 501, 0), BAD);
        C.due("501 behind", x.grab(0, 0, 501), BAD);
        C.due("500 each are CAUGHT still", x.total(3), 1001);
    }

    private static void asFarAsSamplesCame() {
        C.sentence("as far as SAMPLES came");
        TriggerLoom x = Looms.loom("a");
        x.sample(1, 1);
        C.due("the only TICK", x.grab(0, 500, 500), 1);
        C.allDue("caught", x::caught, 1, NONE);
        x.sample(2, 3);
        x.sample(3, 1);
        C.due("TICK 0", x.grab(0, 500, 500), 5);
        C.due("TICK 0, as many as came behind", x.grab(0, 0, 4), 5);
        C.due("TICK 0, one more", x.grab(0, 0, 5), 5);
        C.due("the latest TICK, as many as came ahead", x.grab(1, 4, 0), 5);
        C.due("the latest TICK, one more", x.grab(1, 5, 0), 5);
        C.due("the latest TICK, one fewer", x.grab(1, 3, 500), 4);
        C.allDue("caught", x::caught, 2, 2, 2, 3, NONE);
        x = Looms.loom("a");
        x.sample(0, 499);
        x.sample(1, 1);
        x.sample(0, 499);
        C.due("499 on each side", x.grab(0, 500, 500), 999);
    }

    private static void atTheLastTicks() {
        C.sentence("as far as SAMPLES came: to TICK 3999");
        TriggerLoom x = Looms.loom("a");
        Looms.comes(x, 0, 3999);
        x.sample(1, 1);
        C.due("TICK 3999", x.grab(0, 500, 500), 501);
        C.due("the last", x.caught(500), 1);
        x.arm();
        Looms.comes(x, 0, 3499);
        x.sample(1, 1);
        x.sample(0, 500);
        C.due("TICK 3499", x.grab(0, 500, 500), 1001);
    }

    private static void insteadOfOthers() {
        C.sentence("they are CAUGHT (instead of others)");
        TriggerLoom x = Looms.loom("a");
        Looms.samples(x, 2, 4, 1, 6, 8, 3);
        x.grab(0, 2, 2);
        C.due("grab(1, 0, 0)", x.grab(1, 0, 0), 1);
        C.allDue("caught", x::caught, 3, NONE, NONE, NONE, NONE, NONE);
        C.due("total(3)", x.total(3), 1);
        C.due("runs()", x.runs(), 1);
    }

    private static void caughtIsKept() {
        C.sentence("they are CAUGHT: what comes behind leaves them");
        TriggerLoom x = Looms.loom("a");
        Looms.samples(x, 5, 7, 8);
        x.grab(1, 1, 2);
        x.sample(11, 2);
        C.allDue("behind sample", x::caught, 5, 7, 8, NONE);
        x.arm();
        Looms.samples(x, 100, 101);
        C.allDue("behind arm()", x::caught, 5, 7, 8, NONE);
        Looms.feed(x, "b");
        x.read();
        C.allDue("behind read", x::caught, 5, 7, 8, NONE);
        C.due("runs behind read", x.runs(), 3);
    }

    private static void noSuchTick() {
        C.sentence("UNKNOWN: there is no such TICK");
        TriggerLoom x = Looms.loom("a");
        C.due("none came", x.grab(0, 0, 0), UNKNOWN);
        x.sample(0, 3);
        C.due("none HELD", x.grab(0, 0, 0), UNKNOWN);
        x.sample(1, 2);
        C.due("the last", x.grab(1, 0, 0), 1);
        C.due("without a TRIGGER", new TriggerLoom().grab(0, 0, 0), UNKNOWN);
        for (int i : new int[] {1, -1, Integer.MIN_VALUE, Integer.MAX_VALUE}) {
            C.refused(Looms::busy, "grab(" + i + ", 0, 0)", y -> y.grab(i, 0, 0), UNKNOWN);
        }
        x.arm();
        C.due("behind arm()", x.grab(0, 0, 0), UNKNOWN);
        C.due("CAUGHT is as it was", x.total(3), 1);
    }

    private static void aheadOrBehindIsBad() {
        C.sentence("BAD: ahead, behind.");
        for (int wrong : new int[] {-1, 501, Integer.MIN_VALUE, Integer.MAX_VALUE}) {
            C.refused(Looms::busy, "ahead " + wrong, x -> x.grab(0, wrong, 0), BAD);
            C.refused(Looms::busy, "behind " + wrong, x -> x.grab(0, 0, wrong), BAD);
            C.refused(Looms::busy, "both " + wrong, x -> x.grab(0, wrong, wrong), BAD);
        }
    }
}
