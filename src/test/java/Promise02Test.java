/** Promise 2: feed. */
public final class Promise02Test {
    private static final int FULL = Checks.FULL;
    private static final Checks C = new Checks("Promise 2");

    public static void main(String[] args) {
        lowestFirst();
        behindTheTape();
        zeroEnds();
        eachByte();
        howMany();
        moreThanSixty();
        fullChangesNothing();
        C.finish();
    }

    private static void lowestFirst() {
        C.sentence("Eight bytes come behind THE TAPE, the lowest of w first");
        TriggerLoom x = new TriggerLoom();
        C.due("feed of 'a;12,34:'", x.feed(0x3A34332C32313B61L), 8);
        C.due("feed of 'b'", x.feed('b'), 9);
        C.due("read", x.read(), 3);
        C.node(x, 2, 7, 0, 1, 12, 34);
    }

    private static void behindTheTape() {
        C.sentence("come behind THE TAPE");
        TriggerLoom x = new TriggerLoom();
        for (char b : "a;3,4:b+".toCharArray()) {
            x.feed(b);
        }
        C.due("total(5)", x.total(5), 8);
        C.due("read", x.read(), 3);
        C.node(x, 1, 1, 1, 0, Checks.NONE, Checks.NONE);
        Looms.feed(x, "a&");
        C.due("read with a FAULT leaves THE TAPE", x.read(), -102);
        C.due("behind it", x.feed('c'), 3);
        C.due("read", x.read(), 3);
    }

    private static void zeroEnds() {
        C.sentence("as far as they are not 0 (a 0 ends them)");
        for (int zero = 0; zero < 8; zero++) {
            TriggerLoom x = new TriggerLoom();
            C.due("byte " + zero + " is 0", x.feed(0x6161616161616161L & ~(255L << 8 * zero)), zero);
        }
        TriggerLoom x = new TriggerLoom();
        C.due("none is 0", x.feed(0x6161616161616161L), 8);
        C.due("the lowest is 0", x.feed(0x6161616161616100L), 8);
        C.due("the highest alone is not 0", x.feed(0x6100000000000000L), 8);
        C.due("all are 0", x.feed(0), 8);
        C.due("Long.MIN_VALUE", x.feed(Long.MIN_VALUE), 8);
    }

    private static void eachByte() {
        C.sentence("Eight bytes come");
        TriggerLoom x = new TriggerLoom();
        C.due("Long.MAX_VALUE", x.feed(Long.MAX_VALUE), 8);
        C.due("-1", x.feed(-1L), 16);
        C.due("bytes of 128", x.feed(0x8080808080808080L), 24);
        C.due("bytes of 1", x.feed(0x0101010101010101L), 32);
        C.due("the highest is above 127", x.feed(0xFF20202020202020L), 40);
        C.due("a byte of 255", x.feed(255), 41);
    }

    private static void howMany() {
        C.sentence("how many it has");
        TriggerLoom x = new TriggerLoom();
        for (int i = 1; i <= 60; i++) {
            C.due("byte " + i, x.feed(' '), i);
            C.due("total(5)", x.total(5), i);
        }
        C.due("none more", x.feed(0), 60);
    }

    /** On a TAPE of each size: as many as there is room for, and one more. */
    private static void moreThanSixty() {
        C.sentence("FULL: more than 60.");
        for (int size = 52; size <= 60; size++) {
            int room = 60 - size;
            TriggerLoom x = new TriggerLoom();
            Looms.feed(x, " ".repeat(size));
            for (int more = room + 1; more <= 8; more++) {
                C.due(size + " and " + more, x.feed(Looms.word("a".repeat(more))), FULL);
            }
            C.due(size + " and " + room, x.feed(Looms.word("a".repeat(room))), 60);
        }
        TriggerLoom x = new TriggerLoom();
        Looms.feed(x, " ".repeat(59));
        C.due("bytes behind a 0 do not count", x.feed(0x6161616161610061L), 60);
        C.due("one more", x.feed(1), FULL);
        C.due("none more", x.feed(0x6161616161616100L), 60);
        x.cut();
        C.due("behind cut", x.feed(-1L), 8);
    }

    private static void fullChangesNothing() {
        C.sentence("FULL; what is refused changes nothing");
        TriggerLoom x = new TriggerLoom();
        Looms.feed(x, "a" + " ".repeat(54));
        C.due("feed of '&b&c&d'", x.feed(Looms.word("&b&c&d")), FULL);
        C.due("total(5)", x.total(5), 55);
        C.due("fault()", x.fault(), 0);
        C.due("none of them came", x.read(), 1);
        C.refused(Promise02Test::fullTape, "feed of 'a'", twin -> twin.feed('a'), FULL);
        C.refused(Promise02Test::fullTape, "feed of -1", twin -> twin.feed(-1L), FULL);
    }

    private static TriggerLoom fullTape() {
        TriggerLoom x = Looms.busy();
        Looms.feed(x, " ".repeat(58));
        return x;
    }
}
