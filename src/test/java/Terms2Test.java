/** Terms 2: at which TICKS a NODE HOLDS. */
public final class Terms2Test {
    private static final int NONE = Checks.NONE;
    private static final Checks C = new Checks("Terms 2");

    public static void main(String[] args) {
        level();
        edgeRises();
        edgeFalls();
        edgeChanges();
        edgeNeedsASampleAhead();
        not();
        bothAndEither();
        counted();
        countedToTheGreatest();
        countedUpToThisTick();
        armed();
        armedHoldsOrWaits();
        armedWaitsWithoutEnd();
        timedFromTheFirstNumber();
        timedToTheSecondNumber();
        timedAtTheGreatest();
        timedWaitsNoMore();
        timedInThisOrder();
        trigger();
        withinOneAnother();
        C.finish();
    }

    private static void level() {
        C.sentence("LEVEL: the WIRE is 1.");
        C.hits("a", "0123", 1, 3);
        C.hits("b", "0123", 2, 3);
        C.hits("a", "1", 0);
        C.hits("a", "000");
    }

    private static void edgeRises() {
        C.sentence("is 1 and was 0 (+)");
        C.hits("a+", "10110100", 2, 5);
        C.hits("b+", "0221", 1);
    }

    private static void edgeFalls() {
        C.sentence("is 0 and was 1 (-)");
        C.hits("a-", "10110100", 1, 4, 6);
        C.hits("b-", "2013", 1);
    }

    private static void edgeChanges() {
        C.sentence("is other than it was (~)");
        C.hits("a~", "10110100", 1, 2, 4, 5, 6);
        C.hits("b~", "0132", 2);
    }

    private static void edgeNeedsASampleAhead() {
        C.sentence("EDGE: there is a SAMPLE ahead");
        for (String edge : new String[] {"a+", "a-", "a~"}) {
            C.hits(edge, "0");
            C.hits(edge, "1");
        }
        TriggerLoom x = Looms.loom("a~");
        Looms.samples(x, 0, 1, 0);
        x.arm();
        C.due("none is ahead behind arm()", x.sample(1, 1), 0);
        C.due("one is ahead", x.sample(0, 1), 1);
        Looms.feed(x, "a~");
        x.read();
        C.due("none is ahead behind read()", x.sample(1, 1), 0);
    }

    private static void not() {
        C.sentence("NOT: the NODE within does not.");
        C.hits("!a", "0123", 0, 2);
        C.hits("!!a", "0123", 1, 3);
        C.hits("!a+", "0101", 0, 2);
    }

    private static void bothAndEither() {
        C.sentence("BOTH, EITHER: both, one at least.");
        C.hits("a&b", "0123", 3);
        C.hits("a/b", "0123", 1, 2, 3);
        C.hits("a&!b/!a&b", "0123", 1, 2);
        C.hits("!(a/b)&a", "0123");
    }

    private static void counted() {
        C.sentence("COUNTED: the NODE within holds, and it has so many times a whole number that the NUMBER tells");
        C.hits("1*a", "0110", 1, 2);
        C.hits("2*a", "01101011", 2, 6);
        C.hits("3*a", "11011101111", 3, 7, 10);
        C.hits("3*a", "11100111", 2, 7);
        C.hits("2*!a", "0010", 1);
        C.hits("2*2*a", "11111111", 3, 7);
        C.hits("2*a+", "0101010101", 3, 7);
        C.hits("!2*a", "1111", 0, 2);
        C.hits("2*a&b", "1313", 1, 3);
    }

    private static void countedToTheGreatest() {
        C.sentence("so many times a whole number that the NUMBER tells");
        TriggerLoom x = Looms.loom("999*a");
        C.due("998 times", x.sample(1, 998), 0);
        C.due("999 times", x.sample(1, 1), 1);
        C.due("1000 times", x.sample(1, 1), 0);
        Looms.comes(x, 1, 3000);
        C.allDue("when", x::when, 998, 1997, 2996, 3995, NONE);
        C.due("counted", x.waits(1), 4000);
        x = Looms.loom("1*a");
        Looms.comes(x, 1, 4000);
        C.due("each of 4000", x.total(2), 4000);
    }

    private static void countedUpToThisTick() {
        C.sentence("(of TICKS up to this one)");
        TriggerLoom x = Looms.loom("2*a");
        C.due("once", x.sample(1, 1), 0);
        C.due("this TICK is the second", x.sample(1, 1), 1);
        C.due("counted still", x.sample(0, 1), 0);
        x.sample(1, 1);
        x.arm();
        C.due("TICKS ahead of arm() do not count", x.sample(1, 1), 0);
        C.due("twice since arm()", x.sample(1, 1), 1);
    }

    private static void armed() {
        C.sentence("ARMED: by its first and its second NODE: it is WAITING from no TICK at first");
        C.hits("a;b", "2");
        C.hits("a;b", "222");
        C.hits("a;b", "12", 1);
        C.hits("a;b", "0123", 2);
        C.hits("a;b", "10002", 4);
        C.hits("a;b", "12212", 1, 4);
        C.hits("a;b;c", "1214", 3);
        C.hits("a;b;c", "1244124", 2, 6);
    }

    private static void armedHoldsOrWaits() {
        C.sentence("its second NODE holds, it HOLDS, and WAITS no more; else, if it does not WAIT, and its first NODE holds,"
                + " it WAITS from this TICK");
        C.hits("a;b", "3");
        C.hits("a;b", "333333", 1, 3, 5);
        C.hits("a;a", "1111", 1, 3);
        C.hits("a;!a", "101100", 1, 4);
        TriggerLoom x = Looms.loom("a;b");
        x.sample(3, 1);
        C.due("WAITS from this TICK", x.waits(2), 0);
        x.sample(1, 1);
        C.due("WAITS from the TICK that it did", x.waits(2), 0);
        x.sample(3, 1);
        C.due("WAITS no more", x.waits(2), NONE);
        C.due("HOLDS", x.holds(2), 1);
    }

    private static void armedWaitsWithoutEnd() {
        C.sentence("if it WAITS, and its second NODE holds, it HOLDS");
        TriggerLoom x = Looms.loom("a;b");
        x.sample(1, 1);
        Looms.comes(x, 0, 3998);
        C.due("WAITS from TICK 0", x.waits(2), 0);
        C.due("HOLDS at TICK 3999", x.sample(2, 1), 1);
        C.due("when(0)", x.when(0), 3999);
    }

    private static void timedFromTheFirstNumber() {
        C.sentence("TIMED: from a TICK that is as far back as the first NUMBER at least");
        C.hits("a;2,4:b", "12");
        C.hits("a;2,4:b", "102", 2);
        C.hits("a;2,4:b", "1222", 2);
        C.hits("a;1,1:b", "12", 1);
        C.hits("a;1,1:b", "3");
        C.hits("a;3,4:b", "1110222", 4);
    }

    private static void timedToTheSecondNumber() {
        C.sentence("TIMED: it WAITS no more, if the TICK from which it does is further back than the second NUMBER");
        C.hits("a;2,4:b", "10002", 4);
        C.hits("a;2,4:b", "100002");
        C.hits("a;2,2:b", "102", 2);
        C.hits("a;2,2:b", "1002");
        C.hits("a;1,1:b", "102");
    }

    private static void timedAtTheGreatest() {
        C.sentence("as far back as the first NUMBER at least; further back than the second NUMBER");
        TriggerLoom x = Looms.loom("a;999,999:b");
        x.sample(1, 1);
        C.due("998 back", x.sample(2, 998), 0);
        C.due("999 back", x.sample(2, 1), 1);
        C.due("1000 back", x.sample(2, 1), 0);
        x = Looms.loom("a;1,999:b");
        x.sample(1, 1);
        x.sample(0, 998);
        C.due("WAITS", x.waits(2), 0);
        C.due("the second NUMBER back", x.sample(2, 1), 1);
        x.arm();
        x.sample(1, 1);
        x.sample(0, 999);
        C.due("WAITS at the second NUMBER", x.waits(2), 0);
        C.due("one further back", x.sample(2, 1), 0);
        C.due("WAITS no more", x.waits(2), NONE);
    }

    private static void timedWaitsNoMore() {
        C.sentence("it WAITS no more, if the TICK from which it does is further back");
        TriggerLoom x = Looms.loom("a;2,3:b");
        Looms.samples(x, 1, 0, 0, 0);
        C.due("at the second NUMBER", x.waits(2), 0);
        x.sample(0, 1);
        C.due("behind it", x.waits(2), NONE);
        x.sample(2, 1);
        C.due("its second NODE alone", x.total(2), 0);
        C.hits("a;1,2:b", "1001002");
        C.hits("a;1,2:b", "100102", 5);
    }

    /** Where it WAITS no more, it may WAIT anew from the same TICK; where it HOLDS, it does not. */
    private static void timedInThisOrder() {
        C.sentence("at each TICK, in this order");
        TriggerLoom x = Looms.loom("a;2,3:b");
        Looms.samples(x, 1, 0, 0, 0, 3);
        C.due("WAITS anew from the TICK at which it WAITS no more", x.waits(2), 4);
        C.due("HOLDS not", x.holds(2), 0);
        Looms.samples(x, 1, 3);
        C.due("HOLDS", x.holds(2), 1);
        C.due("WAITS not from the TICK at which it HOLDS", x.waits(2), NONE);
        x.sample(1, 1);
        C.due("WAITS from the next", x.waits(2), 7);
        C.hits("a;1,3:b", "1000102", 6);
        C.hits("a;3,5:b", "1100002");
        C.hits("a;1,3:b", "10003002", 7);
        C.hits("a;2,3:b", "333333", 2, 5);
        C.hits("a;1,2:a", "111111", 1, 3, 5);
    }

    private static void trigger() {
        C.sentence("The TRIGGER HOLDS, if the last NODE does.");
        TriggerLoom x = Looms.loom("a&b");
        C.due("two of three NODES HOLD not", x.sample(1, 1), 0);
        C.due("the last HOLDS not", x.holds(2), 0);
        C.due("all HOLD", x.sample(3, 1), 1);
        x = Looms.loom("!a");
        C.due("the last alone HOLDS", x.sample(0, 1), 1);
    }

    private static void withinOneAnother() {
        C.sentence("At a TICK a NODE HOLDS");
        C.hits("2*(a;b)", "1212012", 3);
        C.hits("!(a;b)", "12", 0);
        C.hits("(a;b)&c", "12126");
        C.hits("(a;b)&c", "12161", 3);
        C.hits("(a;b);(c;b)", "124242", 3);
        C.hits("(a;b);(c;b)", "414242", 5);
    }
}
