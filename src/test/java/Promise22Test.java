/** Promise 22: sendFrame. */
public final class Promise22Test {
    private static final int UNKNOWN = Checks.UNKNOWN, BAD = Checks.BAD, STATE = Checks.STATE, FULL = Checks.FULL;
    private static final Checks C = new Checks("Promise 22");

    public static void main(String[] args) {
        wave();
        eachWidth();
        eachWire();
        eachBit();
        otherWires();
        atHowManyTicks();
        noSuchWire();
        badWidth();
        badByte();
        noTrigger();
        full();
        fullChangesNothing();
        C.finish();
    }

    private static void wave() {
        C.sentence("A FRAME of a WIRE comes as SAMPLES: WIDTH times 0, then each bit, the lowest first, then 1, each WIDTH times");
        TriggerLoom x = Looms.loom("b");
        x.sendFrame(1, 1, 0x96);
        C.allDue("WIDTH 1", x::at, 0, 0, 2, 2, 0, 2, 0, 0, 2, 2, UNKNOWN);
        x.arm();
        x.sendFrame(1, 2, 0x96);
        C.allDue("WIDTH 2", x::at, 0, 0, 0, 0, 2, 2, 2, 2, 0, 0, 2, 2, 0, 0, 0, 0, 2, 2, 2, 2, UNKNOWN);
    }

    private static void eachWidth() {
        C.sentence("each WIDTH times");
        for (int width = 1; width <= 20; width++) {
            TriggerLoom x = Looms.loom("a");
            C.due("WIDTH " + width, x.sendFrame(0, width, 0x55), 5 * width);
            C.due("total(1)", x.total(1), 10 * width);
            for (int part = 0; part < 10; part++) {
                C.due("the first of part " + part, x.at(part * width), part % 2);
                C.due("the last of part " + part, x.at(part * width + width - 1), part % 2);
            }
        }
    }

    private static void eachWire() {
        C.sentence("A FRAME of a WIRE");
        for (int wire = 0; wire < 16; wire++) {
            TriggerLoom x = Looms.loom("a/!a");
            C.due("sendFrame(" + wire + ", 1, 0x55)", x.sendFrame(wire, 1, 0x55), 10);
            int bit = 1 << wire;
            C.allDue("at", x::at, 0, bit, 0, bit, 0, bit, 0, bit, 0, bit, UNKNOWN);
        }
    }

    private static void eachBit() {
        C.sentence("then each bit, the lowest first; byte (0 .. 255)");
        for (int b = 0; b <= 255; b++) {
            TriggerLoom x = Looms.loom("a");
            C.due("byte " + b, x.sendFrame(0, 1, b), 1 + Integer.bitCount(b));
            for (int j = 0; j < 8; j++) {
                C.due("bit " + j, x.at(1 + j), b >> j & 1);
            }
            C.due("the last", x.at(9), 1);
        }
    }

    private static void otherWires() {
        C.sentence("all other WIRES as they were at the latest TICK (0 if there is none)");
        TriggerLoom x = Looms.loom("a");
        x.sendFrame(3, 1, 0);
        C.due("none is ahead", x.at(0), 0);
        x.sample(65535, 1);
        x.sample(0x8005, 1);
        x.sendFrame(1, 1, 1);
        C.allDue("at", tick -> x.at(12 + tick), 0x8005, 0x8007, 0x8005);
        C.due("at the last", x.at(21), 0x8007);
        x.sendFrame(15, 1, 0);
        C.due("the WIRE itself was 1", x.at(22), 7);
        C.due("at the last", x.at(31), 0x8007);
        x.arm();
        x.sendFrame(15, 1, 0);
        C.due("none is ahead behind arm()", x.at(0), 0);
    }

    private static void atHowManyTicks() {
        C.sentence("at how many TICKS the TRIGGER HOLDS");
        C.due("a level", Looms.loom("a").sendFrame(0, 1, 0xF0), 5);
        C.due("an EDGE", Looms.loom("a+").sendFrame(0, 20, 0x55), 5);
        C.due("none", Looms.loom("b").sendFrame(0, 20, 0xFF), 0);
        C.due("all", Looms.loom("!b").sendFrame(0, 20, 0xFF), 200);
        TriggerLoom x = Looms.loom("a");
        x.sample(1, 7);
        C.due("of these alone", x.sendFrame(0, 1, 0), 1);
        C.due("total(2)", x.total(2), 8);
    }

    private static void noSuchWire() {
        C.sentence("UNKNOWN");
        for (int wire : new int[] {-1, 16, Integer.MIN_VALUE, Integer.MAX_VALUE}) {
            C.refused(Looms::busy, "sendFrame(" + wire + ", 1, 0)", x -> x.sendFrame(wire, 1, 0), UNKNOWN);
        }
    }

    private static void badWidth() {
        C.sentence("BAD: width");
        for (int width : new int[] {0, -1, 21, Integer.MIN_VALUE, Integer.MAX_VALUE}) {
            C.refused(Looms::busy, "sendFrame(0, " + width + ", 0)", x -> x.sendFrame(0, width, 0), BAD);
        }
    }

    private static void badByte() {
        C.sentence("BAD: byte (0 .. 255)");
        for (int b : new int[] {-1, 256, Integer.MIN_VALUE, Integer.MAX_VALUE}) {
            C.refused(Looms::busy, "sendFrame(0, 1, " + b + ")", x -> x.sendFrame(0, 1, b), BAD);
        }
    }

    private static void noTrigger() {
        C.sentence("STATE");
        C.refused(TriggerLoom::new, "sendFrame(0, 1, 0)", x -> x.sendFrame(0, 1, 0), STATE);
        C.refused(Looms::idle, "sendFrame(15, 20, 255)", x -> x.sendFrame(15, 20, 255), STATE);
    }

    private static void full() {
        C.sentence("FULL");
        for (int width = 1; width <= 20; width++) {
            TriggerLoom x = Looms.withSamples(4001 - 10 * width);
            C.due("to 4001, WIDTH " + width, x.sendFrame(0, width, 0), FULL);
            C.due("total(1)", x.total(1), 4001 - 10 * width);
            x = Looms.withSamples(4000 - 10 * width);
            C.due("to 4000, WIDTH " + width, x.sendFrame(0, width, 0), width);
            C.due("total(1)", x.total(1), 4000);
        }
    }

    private static void fullChangesNothing() {
        C.sentence("FULL; what is refused changes nothing");
        C.refused(() -> Looms.withSamples(3991), "sendFrame(0, 1, 0)", x -> x.sendFrame(0, 1, 0), FULL);
        C.refused(() -> Looms.withSamples(3801), "sendFrame(0, 20, 0)", x -> x.sendFrame(0, 20, 0), FULL);
        C.refused(() -> Looms.withSamples(4000), "sendFrame(15, 1, 0)", x -> x.sendFrame(15, 1, 0), FULL);
    }
}
