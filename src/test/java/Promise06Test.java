/** Promise 6: node. */
public final class Promise06Test {
    private static final int UNKNOWN = Checks.UNKNOWN, BAD = Checks.BAD, CAST = Checks.CAST, NONE = Checks.NONE;
    private static final String EACH_KIND = "a&b+;!c/2*(d;1,1:e)";
    private static final int[] KINDS = {0, 1, 3, 0, 2, 0, 0, 7, 5, 4, 6};
    private static final Checks C = new Checks("Promise 6");

    public static void main(String[] args) {
        takenAsOfAKind();
        details();
        detailsAsOfEachKind();
        leastAndGreatest();
        unknown();
        bad();
        refusalsChangeNothing();
        C.finish();
    }

    private static boolean isOf(int is, int kind) {
        return kind == 8 || kind == is || kind == 0 && is == 1 || kind == 6 && is == 7;
    }

    private static void takenAsOfAKind() {
        C.sentence("A NODE taken as of a KIND (0: LEVEL, EDGE; 6: ARMED, TIMED; others just these; 8: any); CAST");
        TriggerLoom x = Looms.loom(EACH_KIND);
        for (int n = 0; n < KINDS.length; n++) {
            for (int kind = 0; kind <= 8; kind++) {
                C.due("node(" + n + ", " + kind + ", 0)", x.node(n, kind, 0), isOf(KINDS[n], kind) ? KINDS[n] : CAST);
            }
        }
    }

    private static void details() {
        C.sentence("its KIND (what = 0), its WIRE, first NODE (1), which EDGE, second NODE (2), first NUMBER (3),"
                + " second NUMBER (4); NONE: it has none such.");
        TriggerLoom x = Looms.loom(EACH_KIND);
        C.node(x, 0, 0, 0, NONE, NONE, NONE);
        C.node(x, 1, 1, 1, 0, NONE, NONE);
        C.node(x, 2, 3, 0, 1, NONE, NONE);
        C.node(x, 4, 2, 3, NONE, NONE, NONE);
        C.node(x, 7, 7, 5, 6, 1, 1);
        C.node(x, 8, 5, 7, NONE, 2, NONE);
        C.node(x, 9, 4, 4, 8, NONE, NONE);
        C.node(x, 10, 6, 2, 9, NONE, NONE);
    }

    /** What a NODE has is its own, whatever it is taken as. */
    private static void detailsAsOfEachKind() {
        C.sentence("A NODE taken as of a KIND: its KIND, its WIRE, ..");
        for (int what = 0; what <= 4; what++) {
            TriggerLoom x = Looms.loom(EACH_KIND);
            for (int n = 0; n < KINDS.length; n++) {
                for (int kind = 0; kind <= 7; kind++) {
                    int due = isOf(KINDS[n], kind) ? x.node(n, 8, what) : CAST;
                    C.due("node(" + n + ", " + kind + ", " + what + ")", x.node(n, kind, what), due);
                }
            }
        }
    }

    private static void leastAndGreatest() {
        C.sentence("its WIRE (1); first NUMBER (3), second NUMBER (4)");
        C.node(Looms.loom("a"), 0, 0, 0, NONE, NONE, NONE);
        C.node(Looms.loom("p"), 0, 0, 15, NONE, NONE, NONE);
        C.node(Looms.loom("a+"), 0, 1, 0, 0, NONE, NONE);
        C.node(Looms.loom("p~"), 0, 1, 15, 2, NONE, NONE);
        C.node(Looms.loom("a;1,999:b"), 2, 7, 0, 1, 1, 999);
        C.node(Looms.loom("999*a"), 1, 5, 0, NONE, 999, NONE);
        C.node(Looms.loom("!a" + "&a".repeat(29)), 59, 3, 57, 58, NONE, NONE);
    }

    private static void unknown() {
        C.sentence("UNKNOWN");
        for (int size : new int[] {0, 1, 11, 60}) {
            TriggerLoom x = size == 0 ? new TriggerLoom()
                    : Looms.loom(size == 1 ? "a" : size == 11 ? EACH_KIND : "!a" + "&a".repeat(29));
            C.due("NODES", x.total(0), size);
            C.due("the first NODE", x.node(0, 0, 0), size == 0 ? UNKNOWN : 0);
            C.due("below the first", x.node(-1, 8, 0), UNKNOWN);
            C.due("the last NODE's second NUMBER", x.node(size - 1, 8, 4), size == 0 ? UNKNOWN : NONE);
            C.due("behind the last", x.node(size, 8, 0), UNKNOWN);
            C.due("MAX", x.node(Integer.MAX_VALUE, 8, 0), UNKNOWN);
            C.due("MIN", x.node(Integer.MIN_VALUE, 8, 0), UNKNOWN);
        }
    }

    private static void bad() {
        C.sentence("BAD: kind, what");
        TriggerLoom x = Looms.loom("a;1,2:b");
        for (int wrong : new int[] {-1, 9, Integer.MIN_VALUE, Integer.MAX_VALUE}) {
            C.due("kind " + wrong, x.node(0, wrong, 0), BAD);
        }
        for (int wrong : new int[] {-1, 5, Integer.MIN_VALUE, Integer.MAX_VALUE}) {
            C.due("what " + wrong, x.node(0, 8, wrong), BAD);
            C.due("what " + wrong + " of another KIND", x.node(0, 7, wrong), BAD);
        }
        C.due("kind and what", x.node(0, -1, -1), BAD);
        C.due("the greatest kind, the greatest what", x.node(2, 8, 4), 2);
        C.due("a good what of another KIND", x.node(0, 7, 4), CAST);
    }

    private static void refusalsChangeNothing() {
        C.sentence("UNKNOWN; BAD: kind, what; CAST; what is refused changes nothing");
        C.refused(Looms::busy, "node(4, 8, 0)", x -> x.node(4, 8, 0), UNKNOWN);
        C.refused(Looms::busy, "node(3, 9, 0)", x -> x.node(3, 9, 0), BAD);
        C.refused(Looms::busy, "node(3, 8, 5)", x -> x.node(3, 8, 5), BAD);
        C.refused(Looms::busy, "node(3, 5, 0)", x -> x.node(3, 5, 0), CAST);
        C.refused(Looms::busy, "node(1, 6, 3)", x -> x.node(1, 6, 3), CAST);
    }
}
