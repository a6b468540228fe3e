/** Promise 16: runs. */
public final class Promise16Test {
    private static final Checks C = new Checks("Promise 16");

    public static void main(String[] args) {
        none();
        runsOfLikeSamples();
        asManyAsCanBe();
        C.finish();
    }

    private static void none() {
        C.sentence("how many runs: of nothing");
        C.due("a new object", new TriggerLoom().runs(), 0);
        TriggerLoom x = Looms.loom("a");
        x.sample(1, 9);
        C.due("nothing is CAUGHT", x.runs(), 0);
    }

    private static void runsOfLikeSamples() {
        C.sentence("What is CAUGHT is told by runs of like SAMPLES: how many runs.");
        TriggerLoom x = Looms.loom("p");
        Looms.samples(x, 1, 1, 2, 32768, 32768, 32768, 1, 1, 1, 0, 65535);
        x.grab(0, 0, 0);
        C.due("of one SAMPLE", x.runs(), 1);
        x.grab(0, 0, 1);
        C.due("of two that are alike", x.runs(), 1);
        x.grab(0, 1, 0);
        C.due("of two that differ", x.runs(), 2);
        x.grab(0, 3, 5);
        C.due("of nine, the last like the first", x.runs(), 4);
        x.grab(0, 3, 7);
        C.due("of all", x.runs(), 6);
        C.due("again", x.runs(), 6);
    }

    private static void asManyAsCanBe() {
        C.sentence("how many runs: of 1001 SAMPLES");
        TriggerLoom x = Looms.withSamples(1200);
        x.grab(600, 500, 500);
        C.due("all alike", x.runs(), 1);
        C.due("none alike", Looms.noneAlike().runs(), 1001);
    }
}
