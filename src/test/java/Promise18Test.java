/** Promise 18: squeezed. */
public final class Promise18Test {
    private static final int BAD = Checks.BAD;
    private static final Checks C = new Checks("Promise 18");

    public static void main(String[] args) {
        bySomeWiresAlone();
        eachWire();
        none();
        asManyAsCanBe();
        leavesRuns();
        bad();
        C.finish();
    }

    private static void bySomeWiresAlone() {
        C.sentence("In what is CAUGHT, by some WIRES alone: how many runs there would be.");
        TriggerLoom x = Looms.loom("p");
        Looms.samples(x, 1, 3, 2, 32770, 32768, 32769, 1, 1);
        x.grab(0, 500, 500);
        C.due("by no WIRE", x.squeezed(0), 1);
        C.due("by a", x.squeezed(1), 3);
        C.due("by b", x.squeezed(2), 3);
        C.due("by a, b", x.squeezed(3), 5);
        C.due("by c", x.squeezed(4), 1);
        C.due("by p", x.squeezed(32768), 3);
        C.due("by all but p", x.squeezed(32767), 5);
        C.due("by all", x.squeezed(65535), 7);
        C.due("runs()", x.runs(), 7);
        x.grab(0, 0, 0);
        C.due("of one SAMPLE", x.squeezed(65535), 1);
    }

    private static void eachWire() {
        C.sentence("by some WIRES alone (bits, 0 .. 65535)");
        for (int wire = 0; wire < 16; wire++) {
            TriggerLoom x = Looms.loom("a/!a");
            Looms.samples(x, 0, 1 << wire, 0);
            x.grab(0, 0, 2);
            C.due("by it", x.squeezed(1 << wire), 3);
            C.due("by all others", x.squeezed(65535 ^ 1 << wire), 1);
        }
    }

    private static void none() {
        C.sentence("how many runs there would be: of nothing");
        for (int wires : new int[] {0, 1, 65535}) {
            C.due("a new object", new TriggerLoom().squeezed(wires), 0);
            C.due("nothing is CAUGHT", Looms.withSamples(3).squeezed(wires), 0);
        }
        C.due("BAD of nothing", new TriggerLoom().squeezed(65536), BAD);
    }

    private static void asManyAsCanBe() {
        C.sentence("how many runs there would be: of 1001 SAMPLES");
        TriggerLoom x = Looms.noneAlike();
        C.due("by a", x.squeezed(1), 1001);
        C.due("by all but a", x.squeezed(65534), 1);
    }

    private static void leavesRuns() {
        C.sentence("how many runs there would be: none is made");
        TriggerLoom x = Looms.busy();
        C.due("squeezed(1)", x.squeezed(1), 2);
        C.alike("behind squeezed", x, Looms.busy());
    }

    private static void bad() {
        C.sentence("BAD.");
        for (int wires : new int[] {-1, 65536, Integer.MIN_VALUE, Integer.MAX_VALUE}) {
            C.refused(Looms::busy, "squeezed(" + wires + ")", x -> x.squeezed(wires), BAD);
        }
    }
}
