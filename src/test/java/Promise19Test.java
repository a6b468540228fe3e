/** Promise 19: frames. */
public final class Promise19Test {
    private static final int UNKNOWN = Checks.UNKNOWN, BAD = Checks.BAD;
    private static final Checks C = new Checks("Promise 19");

    public static void main(String[] args) {
        ofEachWire();
        ofEachWidth();
        howManyMarks();
        readAnew();
        noSuchWire();
        badWidth();
        C.finish();
    }

    private static void ofEachWire() {
        C.sentence("FRAMES of a WIRE (0 .. 15) are read");
        for (int wire = 0; wire < 16; wire++) {
            TriggerLoom x = Looms.loom("a/!a");
            x.sample(65535, 2);
            x.sendFrame(wire, 3, 0xC5);
            C.due("frames(" + wire + ", 3)", x.frames(wire, 3), 1);
            C.mark(x, 0, 0, 0xC5, 2);
            C.due("another WIRE", x.frames(15 - wire, 3), 0);
        }
    }

    private static void ofEachWidth() {
        C.sentence("of a WIDTH (1 .. 20)");
        for (int width = 1; width <= 20; width++) {
            TriggerLoom x = Looms.loom("a");
            x.sample(65535, 3);
            x.sendFrame(9, width, 0xC5);
            x.sendFrame(9, width, 0x3A);
            C.due("frames(9, " + width + ")", x.frames(9, width), 2);
            C.mark(x, 0, 0, 0xC5, 3);
            C.mark(x, 1, 0, 0x3A, 3 + 10 * width);
        }
    }

    private static void howManyMarks() {
        C.sentence("how many MARKS");
        C.due("no SAMPLES", Looms.loom("a").frames(0, 1), 0);
        C.due("no TRIGGER", new TriggerLoom().frames(15, 20), 0);
        TriggerLoom x = Looms.loom("a");
        for (int i = 0; i < 400; i++) {
            x.sendFrame(0, 1, 0x55);
        }
        C.due("400 FRAMES", x.frames(0, 1), 400);
        C.due("2000 FAULTS", x.frames(0, 2), 400);
        C.due("total(4)", x.total(4), 400);
    }

    private static void readAnew() {
        C.sentence("are read: MARKS that were read ahead are gone");
        TriggerLoom x = Looms.loom("a");
        x.sendFrame(0, 1, 1);
        x.sendFrame(0, 1, 2);
        C.due("two", x.frames(0, 1), 2);
        C.due("none", x.frames(0, 20), 0);
        C.due("total(4)", x.total(4), 0);
        C.due("mark(0, 0)", x.mark(0, 0), UNKNOWN);
        C.due("two again", x.frames(0, 1), 2);
        C.mark(x, 1, 0, 2, 10);
        TriggerLoom y = Looms.busy();
        y.frames(2, 1);
        C.alike("what is read leaves all else", y, Looms.busy());
    }

    private static void noSuchWire() {
        C.sentence("UNKNOWN");
        for (int wire : new int[] {-1, 16, Integer.MIN_VALUE, Integer.MAX_VALUE}) {
            C.refused(Looms::busy, "frames(" + wire + ", 1)", x -> x.frames(wire, 1), UNKNOWN);
        }
        TriggerLoom x = Looms.busy();
        x.frames(16, 1);
        C.mark(x, 0, 0, 0xA5, 0);
        C.due("MARKS stay", x.total(4), 1);
        C.due("no other", x.mark(1, 1), UNKNOWN);
    }

    private static void badWidth() {
        C.sentence("BAD.");
        for (int width : new int[] {0, -1, 21, Integer.MIN_VALUE, Integer.MAX_VALUE}) {
            C.refused(Looms::busy, "frames(0, " + width + ")", x -> x.frames(0, width), BAD);
        }
        TriggerLoom x = Looms.busy();
        x.frames(0, 21);
        C.mark(x, 0, 0, 0xA5, 0);
        C.due("MARKS stay", x.total(4), 1);
    }
}
