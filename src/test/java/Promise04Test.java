/** Promise 4: read. */
public final class Promise04Test {
    private static final int UNKNOWN = Checks.UNKNOWN, NONE = Checks.NONE, SYNTAX = 1, SPAN = 2;
    private static final Checks C = new Checks("Promise 4");

    public static void main(String[] args) {
        howManyNodes();
        insteadOfTheOneBefore();
        armed();
        tapeIsEmpty();
        placeOfAFault();
        allStays();
        firstReadWithAFault();
        sixtyBytes();
        C.finish();
    }

    private static void howManyNodes() {
        C.sentence("how many NODES");
        C.reads("a", 1);
        C.reads("a~&b-", 3);
        C.reads("a;3,5:b/c", 5);
        C.reads("a/b&c;d/e", 9);
        C.reads("!a" + "&a".repeat(29), 60);
    }

    private static void insteadOfTheOneBefore() {
        C.sentence("its TRIGGER is there instead of the one before");
        TriggerLoom x = Looms.loom("a&b/c");
        Looms.feed(x, "d;e");
        C.due("read", x.read(), 3);
        C.due("total(0)", x.total(0), 3);
        C.node(x, 0, 0, 3, NONE, NONE, NONE);
        C.node(x, 1, 0, 4, NONE, NONE, NONE);
        C.node(x, 2, 6, 0, 1, NONE, NONE);
        C.due("NODES of the one before are gone", x.node(3, 8, 0), UNKNOWN);
        C.due("holds(3)", x.holds(3), UNKNOWN);
        C.due("waits(3)", x.waits(3), UNKNOWN);
        Looms.feed(x, "2*!p");
        C.due("read of a third", x.read(), 3);
        C.node(x, 2, 5, 1, NONE, 2, NONE);
        C.due("it HOLDS", x.sample(0, 2), 1);
    }

    private static void armed() {
        C.sentence("armed");
        TriggerLoom x = Looms.loom("2*a;b");
        Looms.samples(x, 3, 3, 3);
        Looms.feed(x, "2*a;b");
        C.due("read of the same again", x.read(), 4);
        C.allDue("total", x::total, 4, 0, 0, 0, 0, 0);
        C.allDue("nothing HOLDS", x::holds, 0, 0, 0, 0, UNKNOWN);
        C.allDue("nothing WAITS, is counted", x::waits, NONE, 0, NONE, NONE, UNKNOWN);
        C.due("no SAMPLE has come", x.at(0), UNKNOWN);
        C.due("none HELD", x.when(0), NONE);
        C.due("arm()", x.arm(), 0);
    }

    private static void tapeIsEmpty() {
        C.sentence("THE TAPE empty");
        TriggerLoom x = Looms.loom("a;b");
        C.due("total(5)", x.total(5), 0);
        C.due("cut", x.cut(), 0);
        C.due("read again", x.read(), -100);
        C.due("the TRIGGER stays", x.total(0), 3);
        C.due("60 bytes", Looms.feed(x, "b" + " ".repeat(59)), 60);
        C.due("read", x.read(), 1);
    }

    private static void placeOfAFault() {
        C.sentence("-100 less the PLACE of a FAULT");
        C.faults("", 0, SYNTAX);
        C.faults("?", 0, SYNTAX);
        C.faults("a?", 1, SYNTAX);
        C.faults("a;b;", 4, SYNTAX);
        C.faults("a;5,4:b", 4, SPAN);
        C.faults(" ".repeat(59) + "?", 59, SYNTAX);
        C.faults(" ".repeat(59) + "!", 60, SYNTAX);
    }

    private static void allStays() {
        C.sentence("all stays");
        String[] spoiled = {"c ?", "c &", "c ;9,8:b", "c ;1,2", "c &0", "c &!!!!!!!!!!!b", "", "?".repeat(60)};
        int[] places = {2, 3, 5, 6, 3, 13, 0, 0};
        for (int i = 0; i < spoiled.length; i++) {
            int kind = spoiled[i].contains("9,8") ? SPAN : SYNTAX;
            TriggerLoom x = busyWithATape(kind, spoiled[i]);
            for (int again = 0; again < 3; again++) {
                C.due("read of '" + spoiled[i] + "'", x.read(), -100 - places[i]);
                C.due("fault()", x.fault(), kind);
            }
            TriggerLoom twin = busyWithATape(kind, spoiled[i]);
            C.alike("behind read of '" + spoiled[i] + "'", x, twin);
            C.due("counted", x.waits(1), 5);
            C.due("it goes on from the TICK from which it WAITS", x.sample(2, 2), 1);
            twin.sample(2, 2);
            C.alike("later", x, twin);
            C.due("THE TAPE", x.cut(), spoiled[i].length());
        }
    }

    /** A FAULT of that kind was the latest, and the text has not been read. */
    private static TriggerLoom busyWithATape(int kind, String text) {
        TriggerLoom x = Looms.busy();
        x.cut();
        Looms.feed(x, kind == SPAN ? "c;2,1:d" : "c;");
        x.read();
        x.cut();
        Looms.feed(x, text);
        return x;
    }

    private static void firstReadWithAFault() {
        C.sentence("of a FAULT: all stays, without a TRIGGER, too");
        TriggerLoom x = new TriggerLoom();
        Looms.feed(x, "a;2,1:b");
        C.due("read", x.read(), -104);
        C.due("total(0)", x.total(0), 0);
        C.due("node(0, 8, 0)", x.node(0, 8, 0), UNKNOWN);
        C.due("sample", x.sample(1, 1), Checks.STATE);
        C.due("THE TAPE goes on", Looms.feed(x, "&"), 8);
        C.due("read", x.read(), -108);
        C.due("fault()", x.fault(), SYNTAX);
    }

    private static void sixtyBytes() {
        C.sentence("THE TAPE is read: of 60 bytes");
        C.reads("a" + " ".repeat(58) + "+", 1);
        C.reads(" ".repeat(53) + "a;8,9:b", 3);
        C.reads("(".repeat(10) + "a" + " ".repeat(39) + ")".repeat(10), 1);
        C.faults("(".repeat(10) + "a" + " ".repeat(40) + ")".repeat(9), 60, SYNTAX);
    }
}
