/** SAMPLES, and when NODES HOLD: promises 7 to 13, Terms 2. */
public final class SampleTest {
    private static final int NONE = Checks.NONE;
    private static final Checks C = new Checks("SampleTest");

    public static void main(String[] args) {
        wires();
        edges();
        notBothEither();
        counted();
        armed();
        armedAlike();
        timed();
        timedEdges();
        withinOneAnother();
        arm();
        sampleCounts();
        sampleRefusals();
        sampleFull();
        holds();
        waits();
        heldWhenAt();
        C.finish();
    }

    private static void wires() {
        for (int wire = 0; wire < 16; wire++) {
            TriggerLoom x = Checks.loom(String.valueOf((char) ('a' + wire)));
            C.due("its bit, wire " + wire, x.sample(1 << wire, 1), 1);
            C.due("all others, wire " + wire, x.sample(65535 ^ 1 << wire, 1), 0);
        }
    }

    private static void edges() {
        hits("a+", "10110100", 2, 5);
        hits("a-", "10110100", 1, 4, 6);
        hits("a~", "10110100", 1, 2, 4, 5, 6);
        hits("a+", "1");
        hits("a~", "1");
        hits("a-", "0");
        hits("b+", "0221", 1);
    }

    private static void notBothEither() {
        hits("!a", "0123", 0, 2);
        hits("!!a", "0123", 1, 3);
        hits("a&b", "0123", 3);
        hits("a/b", "0123", 1, 2, 3);
        hits("a&!b/!a&b", "0123", 1, 2);
        hits("!a/b&a", "0123", 0, 2, 3);
        hits("!(a/b)&a", "0123");
        hits("!a+", "0101", 0, 2);
    }

    private static void counted() {
        hits("3*a", "11011101111", 3, 7, 10);
        hits("1*a", "0110", 1, 2);
        hits("2*a", "1100", 1);
        hits("2*!a", "0010", 1);
        hits("2*2*a", "11111111", 3, 7);
        hits("!2*a", "1111", 0, 2);
        hits("2*a+", "0101010101", 3, 7);
        hits("2*a&b", "1313", 1, 3);
    }

    private static void armed() {
        hits("a;b", "0123", 2);
        hits("a;b", "10002", 4);
        hits("a;b", "12212", 1, 4);
        hits("a;b", "11122", 3);
        hits("a;b;c", "1214", 3);
        hits("a;b;c", "1244124", 2, 6);
    }

    /** A TICK at which a TRIGGER HOLDS is not one from which it WAITS. */
    private static void armedAlike() {
        hits("a;b", "333333", 1, 3, 5);
        hits("a;a", "1111", 1, 3);
        hits("a;!a", "101100", 1, 4);
    }

    private static void timed() {
        hits("a;2,4:b", "12");
        hits("a;2,4:b", "102", 2);
        hits("a;2,4:b", "10002", 4);
        hits("a;2,4:b", "100002");
        hits("a;2,4:b", "1222", 2);
        hits("a;2,2:b", "102", 2);
        hits("a;2,2:b", "1002");
        hits("a;1,1:b", "12", 1);
        hits("a;1,1:b", "102");
        hits("a;9,20:b", "12");
    }

    /** Where it WAITS no more, it may WAIT anew from the same TICK; where it WAITS, it does not. */
    private static void timedEdges() {
        hits("a;1,2:b", "1001002");
        hits("a;1,2:b", "100102", 5);
        hits("a;1,3:b", "1000102", 6);
        hits("a;3,5:b", "1100002");
        hits("a;1,3:b", "10003002", 7);
        hits("a;3,4:b", "1110222", 4);
        hits("a;2,3:b", "333333", 2, 5);
        hits("a;1,2:a", "111111", 1, 3, 5);
        TriggerLoom x = Checks.loom("a;2,3:b");
        Checks.samples(x, 1, 0, 0, 0);
        C.due("WAITS at the second NUMBER still", x.waits(2), 0);
        x.sample(1, 1);
        C.due("WAITS anew", x.waits(2), 4);
        Checks.samples(x, 1, 2);
        C.due("HOLDS", x.holds(2), 1);
        C.due("WAITS no more", x.waits(2), NONE);
        x.sample(1, 1);
        C.due("WAITS", x.waits(2), 7);
        x.sample(0, 4);
        C.due("WAITS no more, without SAMPLES of its NODES", x.waits(2), NONE);
    }

    private static void withinOneAnother() {
        hits("2*(a;b)", "1212012", 3);
        hits("!(a;b)", "12", 0);
        hits("(a;b)&c", "12126");
        hits("(a;b)&c", "12161", 3);
        hits("(a;b);(c;d)", "124884", 3);
        hits("(a;b);(c;d)", "412484", 4);
    }

    private static void arm() {
        TriggerLoom x = Checks.loom("3*a;b+");
        Checks.samples(x, 1, 1, 1, 0, 2, 1, 1);
        C.due("when(0)", x.when(0), 4);
        C.due("arm()", x.arm(), 7);
        C.allDue("total behind arm", x::total, 4, 0, 0, 0, 0, 0);
        C.due("nothing is counted", x.waits(1), 0);
        C.due("nothing WAITS", x.waits(3), NONE);
        C.allDue("nothing HOLDS", x::holds, 0, 0, 0, 0);
        C.due("no TICK", x.when(0), NONE);
        C.due("arm() again", x.arm(), 0);
        Checks.samples(x, 3, 1, 1, 3);
        C.due("TICKS from 0, no SAMPLE ahead of the first", x.when(0), 3);
        C.due("arm()", x.arm(), 4);
        x.sample(1, 2);
        x.arm();
        x.sample(1, 1);
        C.due("counted from arm()", x.waits(1), 1);
        C.due("arm() of a new object", new TriggerLoom().arm(), Checks.STATE);
    }

    private static void sampleCounts() {
        TriggerLoom x = Checks.loom("a;b");
        C.due("sample of both", x.sample(3, 7), 3);
        C.due("sample of none", x.sample(0, 10), 0);
        C.due("sample", x.sample(65535, 1000), 500);
        C.due("total(1)", x.total(1), 1017);
        C.due("total(2)", x.total(2), 503);
    }

    private static void sampleRefusals() {
        TriggerLoom x = new TriggerLoom();
        C.due("BAD is told ahead of STATE", x.sample(-1, 1), Checks.BAD);
        C.due("sample(65536, 1)", x.sample(65536, 1), Checks.BAD);
        C.due("sample(0, 0)", x.sample(0, 0), Checks.BAD);
        C.due("sample(0, 1001)", x.sample(0, 1001), Checks.BAD);
        C.due("sample(0, MIN)", x.sample(0, Integer.MIN_VALUE), Checks.BAD);
        C.due("sample(MAX, 1)", x.sample(Integer.MAX_VALUE, 1), Checks.BAD);
        C.due("sample(0, 1)", x.sample(0, 1), Checks.STATE);
    }

    private static void sampleFull() {
        TriggerLoom x = Checks.loom("a");
        x.sample(0, 1000);
        x.sample(1, 1000);
        x.sample(0, 1000);
        x.sample(1, 999);
        C.due("sample to 4001", x.sample(1, 2), Checks.FULL);
        C.due("BAD is told ahead of FULL", x.sample(1, 1001), Checks.BAD);
        C.due("what is refused changes nothing", x.total(1), 3999);
        C.due("sample to 4000", x.sample(1, 1), 1);
        C.due("sample to 4001", x.sample(1, 1), Checks.FULL);
        C.due("at the last", x.at(3999), 1);
        C.due("held at the last", x.held(3999), 1);
        C.due("at behind the last", x.at(4000), Checks.UNKNOWN);
        C.due("held behind the last", x.held(4000), Checks.UNKNOWN);
        C.due("when, the last", x.when(1999), 3999);
        C.due("when behind the last", x.when(2000), NONE);
        C.due("arm()", x.arm(), 4000);
        C.due("sample behind arm()", x.sample(1, 1000), 1000);
    }

    private static void holds() {
        TriggerLoom x = Checks.loom("!a&b~");
        C.allDue("none came", x::holds, 0, 0, 0, 0);
        x.sample(2, 1);
        C.allDue("the first", x::holds, 0, 1, 0, 0);
        x.sample(0, 1);
        C.allDue("the second", x::holds, 0, 1, 1, 1);
        x.sample(3, 1);
        C.allDue("the third", x::holds, 1, 0, 1, 0);
        C.due("holds(-1)", x.holds(-1), Checks.UNKNOWN);
        C.due("holds(4)", x.holds(4), Checks.UNKNOWN);
        C.due("holds(MAX)", x.holds(Integer.MAX_VALUE), Checks.UNKNOWN);
    }

    private static void waits() {
        TriggerLoom x = Checks.loom("2*a;b;3,4:!c&d+/e");
        C.due("NODES", x.total(0), 11);
        C.allDue("none came", x::waits,
                NONE, 0, NONE, NONE, NONE, NONE, NONE, NONE, NONE, NONE, NONE, Checks.UNKNOWN);
        Checks.samples(x, 1, 1, 0);
        C.due("COUNTED", x.waits(1), 2);
        C.due("ARMED", x.waits(3), 1);
        C.due("TIMED", x.waits(10), NONE);
        Checks.samples(x, 3);
        C.due("COUNTED goes on", x.waits(1), 3);
        C.due("ARMED held", x.waits(3), NONE);
        C.due("TIMED WAITS", x.waits(10), 3);
        C.due("waits(11)", x.waits(11), Checks.UNKNOWN);
        C.due("waits(-1)", x.waits(-1), Checks.UNKNOWN);
        C.due("waits(MIN)", x.waits(Integer.MIN_VALUE), Checks.UNKNOWN);
    }

    private static void heldWhenAt() {
        TriggerLoom x = Checks.loom("a+");
        Checks.samples(x, 1, 0, 65535, 3, 2, 1);
        C.allDue("held", x::held, 0, 0, 1, 0, 0, 1, Checks.UNKNOWN);
        C.allDue("when", x::when, 2, 5, NONE, NONE);
        C.allDue("at", x::at, 1, 0, 65535, 3, 2, 1, Checks.UNKNOWN);
        C.due("held(-1)", x.held(-1), Checks.UNKNOWN);
        C.due("held(MIN)", x.held(Integer.MIN_VALUE), Checks.UNKNOWN);
        C.due("held(MAX)", x.held(Integer.MAX_VALUE), Checks.UNKNOWN);
        C.due("when(-1)", x.when(-1), NONE);
        C.due("when(MAX)", x.when(Integer.MAX_VALUE), NONE);
        C.due("at(-1)", x.at(-1), Checks.UNKNOWN);
        C.due("at(MAX)", x.at(Integer.MAX_VALUE), Checks.UNKNOWN);
    }

    /** The TICKS at which a text HOLDS, over SAMPLES of a digit each (a: 1, b: 2, c: 4, d: 8). */
    private static void hits(String text, String digits, int... want) {
        TriggerLoom x = Checks.loom(text);
        int held = 0;
        for (int i = 0; i < digits.length(); i++) {
            held += x.sample(digits.charAt(i) - '0', 1);
        }
        String what = "'" + text + "' over " + digits;
        C.due(what + ", total(2)", x.total(2), want.length);
        C.due(what + ", told by sample", held, want.length);
        C.allDue(what + ", when", x::when, want);
        for (int tick = 0, i = 0; tick < digits.length(); tick++) {
            boolean due = i < want.length && want[i] == tick;
            i += due ? 1 : 0;
            C.due(what + ", held(" + tick + ")", x.held(tick), due ? 1 : 0);
        }
    }
}
