/** Promise 9: holds. */
public final class Promise09Test {
    private static final int UNKNOWN = Checks.UNKNOWN;
    private static final Checks C = new Checks("Promise 9");

    public static void main(String[] args) {
        atTheLatestTick();
        noneCame();
        eachKind();
        unknown();
        C.finish();
    }

    private static void atTheLatestTick() {
        C.sentence("Whether a NODE HOLDS at the latest TICK: 1, 0");
        TriggerLoom x = Looms.loom("!a&b~");
        x.sample(2, 1);
        C.allDue("TICK 0", x::holds, 0, 1, 0, 0, UNKNOWN);
        x.sample(0, 1);
        C.allDue("TICK 1", x::holds, 0, 1, 1, 1, UNKNOWN);
        x.sample(0, 1);
        C.allDue("TICK 2", x::holds, 0, 1, 0, 0, UNKNOWN);
        x.sample(3, 2);
        C.allDue("TICK 4", x::holds, 1, 0, 0, 0, UNKNOWN);
    }

    private static void noneCame() {
        C.sentence("0: none came");
        TriggerLoom x = Looms.loom("!a/b");
        C.allDue("behind read", x::holds, 0, 0, 0, 0, UNKNOWN);
        x.sample(0, 1);
        C.allDue("one came", x::holds, 0, 1, 0, 1, UNKNOWN);
        x.arm();
        C.allDue("behind arm()", x::holds, 0, 0, 0, 0, UNKNOWN);
    }

    private static void eachKind() {
        C.sentence("Whether a NODE HOLDS");
        TriggerLoom x = Looms.loom("a&b+;!c/2*(d;1,1:e)");
        x.sample(8, 1);
        C.allDue("TICK 0", x::holds, 0, 0, 0, 0, 1, 1, 0, 0, 0, 1, 0, UNKNOWN);
        x.sample(3 + 16, 1);
        C.allDue("TICK 1", x::holds, 1, 1, 1, 0, 1, 0, 1, 1, 0, 1, 0, UNKNOWN);
        x.sample(4 + 8, 1);
        C.allDue("TICK 2", x::holds, 0, 0, 0, 1, 0, 1, 0, 0, 0, 0, 0, UNKNOWN);
        x.sample(4 + 16, 1);
        C.allDue("TICK 3", x::holds, 0, 0, 0, 1, 0, 0, 1, 1, 1, 1, 1, UNKNOWN);
    }

    private static void unknown() {
        C.sentence("UNKNOWN");
        TriggerLoom x = Looms.loom("!a" + "&a".repeat(29));
        x.sample(0, 1);
        C.due("below the first", x.holds(-1), UNKNOWN);
        C.due("the first", x.holds(0), 0);
        C.due("the last of 60", x.holds(59), 0);
        C.due("behind the last", x.holds(60), UNKNOWN);
        C.due("MAX", x.holds(Integer.MAX_VALUE), UNKNOWN);
        C.due("MIN", x.holds(Integer.MIN_VALUE), UNKNOWN);
        C.due("without a TRIGGER", new TriggerLoom().holds(0), UNKNOWN);
        C.refused(Looms::busy, "holds(4)", y -> y.holds(4), UNKNOWN);
        C.refused(Looms::busy, "holds(-1)", y -> y.holds(-1), UNKNOWN);
    }
}
