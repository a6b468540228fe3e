/** Promise 23: sendByte. */
public final class Promise23Test {
    private static final int UNKNOWN = Checks.UNKNOWN, BAD = Checks.BAD, STATE = Checks.STATE, FULL = Checks.FULL;
    private static final Checks C = new Checks("Promise 23");

    public static void main(String[] args) {
        start();
        bits();
        stop();
        eachByte();
        twoWires();
        otherWires();
        atHowManyTicks();
        readAgain();
        noSuchWire();
        bothAreOne();
        badByte();
        noTrigger();
        full();
        fullChangesNothing();
        C.finish();
    }

    /** Clock a, data b: 1 is clock, 2 data. */
    private static TriggerLoom sent(int b, boolean start, boolean stop) {
        TriggerLoom x = Looms.loom("a/!a");
        C.due("TICKS", x.sendByte(0, 1, b, start, stop), 24 + (start ? 3 : 0) + (stop ? 3 : 0));
        C.due("SAMPLES", x.total(1), 24 + (start ? 3 : 0) + (stop ? 3 : 0));
        return x;
    }

    private static void start() {
        C.sentence("with start ahead of it clock, data 1 1, 1 0, 0 0");
        C.allDue("with start", sent(0, true, false)::at, 3, 1, 0, 0, 1, 0);
        C.allDue("with start, the highest bit 1", sent(128, true, false)::at, 3, 1, 0, 2, 3, 2);
        C.allDue("without", sent(0, false, false)::at, 0, 1, 0, 0, 1, 0);
    }

    private static void bits() {
        C.sentence("of each bit, the highest first, 0 bit, 1 bit, 0 bit");
        C.allDue("of 0xC5", sent(0xC5, false, false)::at, 2, 3, 2, 2, 3, 2, 0, 1, 0, 0, 1, 0,
                0, 1, 0, 2, 3, 2, 0, 1, 0, 2, 3, 2, UNKNOWN);
    }

    private static void stop() {
        C.sentence("with stop behind 0 0, 1 0, 1 1");
        TriggerLoom x = sent(255, false, true);
        C.allDue("with stop", tick -> x.at(21 + tick), 2, 3, 2, 0, 1, 3, UNKNOWN);
        TriggerLoom y = sent(255, false, false);
        C.allDue("without", tick -> y.at(21 + tick), 2, 3, 2, UNKNOWN);
        TriggerLoom z = sent(0, true, true);
        C.allDue("with both", tick -> z.at(24 + tick), 0, 1, 0, 0, 1, 3, UNKNOWN);
    }

    private static void eachByte() {
        C.sentence("b (0 .. 255); of each bit, the highest first");
        for (int b = 0; b <= 255; b++) {
            TriggerLoom x = Looms.loom("b");
            C.due("byte " + b, x.sendByte(0, 1, b, false, false), 3 * Integer.bitCount(b));
            for (int j = 0; j < 8; j++) {
                C.due("bit " + j, x.at(3 * (7 - j) + 1), 1 | (b >> j & 1) << 1);
            }
        }
    }

    private static void twoWires() {
        C.sentence("A BYTE comes by two WIRES");
        for (int clock = 0; clock < 16; clock++) {
            for (int data = 0; data < 16; data++) {
                if (clock != data) {
                    int c = 1 << clock;
                    int d = 1 << data;
                    TriggerLoom x = Looms.loom("a/!a");
                    x.sendByte(clock, data, 1, true, true);
                    C.allDue("the first, of " + clock + " and " + data, x::at, c | d, c, 0, 0, c, 0);
                    C.allDue("the last, of " + clock + " and " + data, tick -> x.at(24 + tick), d, c | d, d, 0, c, c | d);
                }
            }
        }
    }

    private static void otherWires() {
        C.sentence("(others as they were)");
        TriggerLoom x = Looms.loom("a");
        x.sample(65535, 1);
        x.sendByte(0, 15, 0, true, true);
        C.allDue("at", tick -> x.at(1 + tick), 65535, 32767, 32766, 32766, 32767, 32766);
        C.due("at the last", x.at(30), 65535);
        x.sample(0x1234, 1);
        x.sendByte(0, 15, 255, false, false);
        C.allDue("at", tick -> x.at(32 + tick), 0x9234, 0x9235, 0x9234);
        x.arm();
        x.sendByte(0, 1, 0, true, false);
        C.allDue("none is ahead behind arm()", x::at, 3, 1, 0);
    }

    private static void atHowManyTicks() {
        C.sentence("at how many TICKS the TRIGGER HOLDS");
        C.due("clock, with both", Looms.loom("a").sendByte(0, 1, 0x40, true, true), 8 + 2 + 2);
        C.due("clock, with start", Looms.loom("a").sendByte(0, 1, 0, true, false), 10);
        C.due("clock, with stop", Looms.loom("a").sendByte(0, 1, 0, false, true), 10);
        C.due("clock, with none", Looms.loom("a").sendByte(0, 1, 0, false, false), 8);
        C.due("rises of clock", Looms.loom("a+").sendByte(0, 1, 0, true, true), 9);
        C.due("none", Looms.loom("c").sendByte(0, 1, 255, true, true), 0);
        TriggerLoom x = Looms.loom("a");
        x.sample(1, 7);
        C.due("of these alone", x.sendByte(0, 1, 0, false, false), 8);
        C.due("total(2)", x.total(2), 15);
    }

    private static void readAgain() {
        C.sentence("A BYTE comes by two WIRES");
        TriggerLoom x = Looms.loom("a");
        for (int b = 0; b < 100; b++) {
            x.sendByte(4, 15, 255 - 2 * b, b % 10 == 0, b % 10 == 9);
        }
        C.due("bytes", x.bytes(4, 15), 120);
        for (int b = 0; b < 100; b++) {
            C.due("BYTE " + b, x.mark(b + 1 + 2 * (b / 10), 1), 255 - 2 * b);
        }
    }

    private static void noSuchWire() {
        C.sentence("UNKNOWN");
        for (int wire : new int[] {-1, 16, Integer.MIN_VALUE, Integer.MAX_VALUE}) {
            C.refused(Looms::busy, "clock " + wire, x -> x.sendByte(wire, 0, 0, true, true), UNKNOWN);
            C.refused(Looms::busy, "data " + wire, x -> x.sendByte(0, wire, 0, true, true), UNKNOWN);
            C.refused(Looms::busy, "both " + wire, x -> x.sendByte(wire, wire, 0, false, false), UNKNOWN);
        }
    }

    private static void bothAreOne() {
        C.sentence("BAD: both are one");
        for (int wire = 0; wire < 16; wire++) {
            C.due("both " + wire, Looms.busy().sendByte(wire, wire, 0, true, true), BAD);
        }
        C.refused(Looms::busy, "both 0", x -> x.sendByte(0, 0, 0, true, true), BAD);
        C.refused(Looms::busy, "both 15", x -> x.sendByte(15, 15, 255, false, false), BAD);
    }

    private static void badByte() {
        C.sentence("BAD: b");
        for (int b : new int[] {-1, 256, Integer.MIN_VALUE, Integer.MAX_VALUE}) {
            C.refused(Looms::busy, "byte " + b, x -> x.sendByte(0, 1, b, true, true), BAD);
            C.refused(Looms::busy, "byte " + b + " alone", x -> x.sendByte(0, 1, b, false, false), BAD);
        }
    }

    private static void noTrigger() {
        C.sentence("STATE");
        C.refused(TriggerLoom::new, "sendByte(0, 1, 0, ..)", x -> x.sendByte(0, 1, 0, true, true), STATE);
        C.refused(Looms::idle, "sendByte(15, 14, 255, ..)", x -> x.sendByte(15, 14, 255, false, false), STATE);
    }

    private static void full() {
        C.sentence("FULL");
        full(30, true, true);
        full(27, true, false);
        full(27, false, true);
        full(24, false, false);
    }

    private static void full(int more, boolean start, boolean stop) {
        TriggerLoom x = Looms.withSamples(4001 - more);
        C.due(more + " to 4001", x.sendByte(1, 2, 0, start, stop), FULL);
        C.due("total(1)", x.total(1), 4001 - more);
        x = Looms.withSamples(4000 - more);
        C.due(more + " to 4000", x.sendByte(1, 2, 0, start, stop), more);
        C.due("total(1)", x.total(1), 4000);
    }

    private static void fullChangesNothing() {
        C.sentence("FULL; what is refused changes nothing");
        C.refused(() -> Looms.withSamples(3971), "30 to 4001", x -> x.sendByte(0, 1, 0, true, true), FULL);
        C.refused(() -> Looms.withSamples(3974), "start to 4001", x -> x.sendByte(0, 1, 0, true, false), FULL);
        C.refused(() -> Looms.withSamples(3974), "stop to 4001", x -> x.sendByte(0, 1, 0, false, true), FULL);
        C.refused(() -> Looms.withSamples(3977), "24 to 4001", x -> x.sendByte(0, 1, 0, false, false), FULL);
        C.refused(() -> Looms.withSamples(4000), "24 to 4024", x -> x.sendByte(0, 1, 0, false, false), FULL);
    }
}
