/** Promise 21: mark. */
public final class Promise21Test {
    private static final int UNKNOWN = Checks.UNKNOWN, BAD = Checks.BAD, NONE = Checks.NONE;
    private static final int BYTE = 0, START = 1, STOP = 2, FAULT = 3;
    private static final int CLOCK = Looms.CLOCK, DATA = Looms.DATA;
    private static final Checks C = new Checks("Promise 21");

    public static void main(String[] args) {
        kindByteTick();
        ofWhatWasReadLast();
        unknown();
        bad();
        C.finish();
    }

    private static void kindByteTick() {
        C.sentence("its kind (what = 0), the BYTE (1; NONE: it is none), its TICK (2)");
        TriggerLoom x = Looms.two("32" + "020".repeat(8) + "131" + "023");
        C.due("bytes", x.bytes(CLOCK, DATA), 4);
        C.mark(x, 0, START, NONE, 1);
        C.mark(x, 1, BYTE, 0, 25);
        C.mark(x, 2, FAULT, NONE, 31);
        C.mark(x, 3, STOP, NONE, 31);
        x = Looms.wave("0" + "11111111" + "1" + "0" + "00000000" + "0");
        C.due("frames", x.frames(0, 1), 2);
        C.mark(x, 0, BYTE, 255, 0);
        C.mark(x, 1, FAULT, NONE, 19);
    }

    private static void ofWhatWasReadLast() {
        C.sentence("MARK i of what was read last");
        TriggerLoom x = Looms.two("323");
        C.due("nothing was read", x.mark(0, 0), UNKNOWN);
        x.bytes(CLOCK, DATA);
        x.sample(0, 50);
        C.mark(x, 1, STOP, NONE, 2);
        x.arm();
        Looms.feed(x, "b");
        x.read();
        C.due("total(4) behind arm(), read", x.total(4), 2);
        C.mark(x, 1, STOP, NONE, 2);
        x.sendFrame(0, 1, 77);
        C.mark(x, 1, STOP, NONE, 2);
        x.frames(0, 1);
        C.due("total(4)", x.total(4), 1);
        C.mark(x, 0, BYTE, 77, 0);
        C.due("mark(1, 0)", x.mark(1, 0), UNKNOWN);
        x.bytes(0, 1);
        C.due("none was read", x.mark(0, 0), UNKNOWN);
    }

    private static void unknown() {
        C.sentence("UNKNOWN");
        C.due("a new object", new TriggerLoom().mark(0, 0), UNKNOWN);
        for (int i : new int[] {1, -1, 400, Integer.MIN_VALUE, Integer.MAX_VALUE}) {
            C.refused(Looms::busy, "mark(" + i + ", 0)", x -> x.mark(i, 0), UNKNOWN);
            C.refused(Looms::busy, "mark(" + i + ", 3)", x -> x.mark(i, 3), UNKNOWN);
        }
        TriggerLoom x = Looms.loom("a");
        for (int i = 0; i < 80; i++) {
            x.sendFrame(0, 1, 0x55);
        }
        C.due("400 MARKS", x.frames(0, 2), 400);
        C.mark(x, 399, FAULT, NONE, 799);
        C.due("behind the last of 400", x.mark(400, 0), UNKNOWN);
    }

    private static void bad() {
        C.sentence("BAD.");
        for (int what : new int[] {3, -1, Integer.MIN_VALUE, Integer.MAX_VALUE}) {
            C.refused(Looms::busy, "mark(0, " + what + ")", x -> x.mark(0, what), BAD);
        }
        C.due("the greatest what", Looms.busy().mark(0, 2), 0);
        C.due("the least what", Looms.busy().mark(0, 0), BYTE);
    }
}
