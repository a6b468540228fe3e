/** Promise 20: bytes. */
public final class Promise20Test {
    private static final int UNKNOWN = Checks.UNKNOWN, BAD = Checks.BAD, NONE = Checks.NONE;
    private static final int CLOCK = Looms.CLOCK, DATA = Looms.DATA;
    private static final Checks C = new Checks("Promise 20");

    public static void main(String[] args) {
        ofTwoWires();
        howManyMarks();
        readAnew();
        noSuchWire();
        bothAreOne();
        C.finish();
    }

    private static void ofTwoWires() {
        C.sentence("BYTES of two WIRES are read");
        for (int clock = 0; clock < 16; clock++) {
            for (int data = 0; data < 16; data++) {
                if (clock != data) {
                    TriggerLoom x = Looms.loom("a/!a");
                    x.sendByte(clock, data, 0xC5, true, true);
                    C.due("bytes(" + clock + ", " + data + ")", x.bytes(clock, data), 3);
                    C.mark(x, 0, 1, NONE, 1);
                    C.mark(x, 1, 0, 0xC5, 26);
                    C.mark(x, 2, 2, NONE, 29);
                }
            }
        }
    }

    private static void howManyMarks() {
        C.sentence("how many MARKS");
        C.due("no SAMPLES", Looms.loom("a").bytes(0, 1), 0);
        C.due("no TRIGGER", new TriggerLoom().bytes(15, 0), 0);
        TriggerLoom x = Looms.two("3");
        for (int i = 0; i < 50; i++) {
            x.sendFrame(DATA, 1, 0x55);
        }
        C.due("500 STARTS and STOPS", x.bytes(CLOCK, DATA), 400);
        C.due("total(4)", x.total(4), 400);
        C.due("the other way about", x.bytes(DATA, CLOCK), 0);
    }

    private static void readAnew() {
        C.sentence("are read: MARKS that were read ahead are gone");
        TriggerLoom x = Looms.two("323");
        C.due("two", x.bytes(CLOCK, DATA), 2);
        C.due("none", x.bytes(CLOCK, 15), 0);
        C.due("total(4)", x.total(4), 0);
        C.due("mark(0, 0)", x.mark(0, 0), UNKNOWN);
        C.due("two again", x.bytes(CLOCK, DATA), 2);
        TriggerLoom y = Looms.busy();
        y.bytes(0, 1);
        y.frames(2, 1);
        C.alike("what is read leaves all else", y, Looms.busy());
    }

    private static void noSuchWire() {
        C.sentence("UNKNOWN");
        for (int wire : new int[] {-1, 16, Integer.MIN_VALUE, Integer.MAX_VALUE}) {
            C.refused(Looms::busy, "bytes(" + wire + ", 0)", x -> x.bytes(wire, 0), UNKNOWN);
            C.refused(Looms::busy, "bytes(0, " + wire + ")", x -> x.bytes(0, wire), UNKNOWN);
            C.refused(Looms::busy, "bytes of " + wire + " twice", x -> x.bytes(wire, wire), UNKNOWN);
        }
    }

    private static void bothAreOne() {
        C.sentence("BAD: both are one.");
        for (int wire = 0; wire < 16; wire++) {
            C.due("bytes of " + wire + " twice", Looms.busy().bytes(wire, wire), BAD);
        }
        C.refused(Looms::busy, "bytes(0, 0)", x -> x.bytes(0, 0), BAD);
        C.refused(Looms::busy, "bytes(15, 15)", x -> x.bytes(15, 15), BAD);
        C.refused(Looms::idle, "bytes(2, 2)", x -> x.bytes(2, 2), BAD);
    }
}
