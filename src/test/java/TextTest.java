/** THE TAPE, THE TEXT on it, its FAULTS and its NODES: promises 2 to 6. */
public final class TextTest {
    private static final int SYNTAX = 1, SPAN = 2;
    private static final Checks C = new Checks("TextTest");

    public static void main(String[] args) {
        feed();
        feedFull();
        cut();
        readsNodes();
        readPutsTheTriggerThere();
        syntaxFaults();
        numbers();
        depth();
        spanFaults();
        faultLeavesAll();
        nodeDetails();
        nodeNumbering();
        nodeRefusals();
        C.finish();
    }

    private static void feed() {
        TriggerLoom x = new TriggerLoom();
        C.due("feed, the lowest byte first", x.feed('a' | '+' << 8), 2);
        C.due("node's text", x.read(), 1);
        C.due("its kind", x.node(0, 8, 0), 1);
        C.due("feed(0)", x.feed(0), 0);
        C.due("feed, a 0 ends the bytes", x.feed(0x6161610061616161L), 4);
        C.due("feed, a 0 first", x.feed(0x6161616161616100L), 4);
        C.due("feed, bytes above 127", x.feed(-1L), 12);
        C.due("feed, the highest byte alone counts", x.feed(0xFF20202020202020L), 20);
    }

    /** With 60 bytes on THE TAPE: one more is FULL and changes nothing, none more is not. */
    private static void feedFull() {
        TriggerLoom x = new TriggerLoom();
        for (int i = 1; i <= 7; i++) {
            C.due("feed eight", x.feed(0x2020202020202020L), 8 * i);
        }
        C.due("feed eight to 64", x.feed(0x2020202020202020L), Checks.FULL);
        C.due("feed five to 61", x.feed(0x2020202020L), Checks.FULL);
        C.due("what is refused changes nothing", x.total(5), 56);
        C.due("feed four to 60", x.feed(0x20202020L), 60);
        C.due("feed one to 61", x.feed('a'), Checks.FULL);
        C.due("feed none to 60", x.feed(0), 60);
        C.due("total(5)", x.total(5), 60);
        C.due("read of 60 blanks", x.read(), -160);
    }

    private static void cut() {
        TriggerLoom x = new TriggerLoom();
        C.due("cut of none", x.cut(), 0);
        Checks.feed(x, "abc");
        C.due("cut", x.cut(), 3);
        C.due("cut again", x.cut(), 0);
        C.due("total behind cut", x.total(5), 0);
        Checks.feed(x, "a");
        C.due("what was cut is not read", x.read(), 1);
    }

    private static void readsNodes() {
        reads("a", 1);
        reads("p", 1);
        reads("  a  ", 1);
        reads("a +", 1);
        reads("a~&b-", 3);
        reads("!a", 2);
        reads("!!a", 3);
        reads("3*a", 2);
        reads("3 * ! a", 3);
        reads("(a)", 1);
        reads("((a))", 1);
        reads("a;b", 3);
        reads("a;b;c", 5);
        reads("a;3*b", 4);
        reads("a;3,5:b", 3);
        reads("a ; 3 , 5 : b", 3);
        reads("a;3,5:3*b", 4);
        reads("a;3,5:b/c", 5);
        reads("(a;b)&(c;d)", 7);
        reads("a/b&c;d/e", 9);
        reads("a&a&a&a&a&a&a&a&a&a&a&a&a&a&a&a&a&a&a&a&a&a&a&a&a&a&a&a&a&a", 59);
    }

    private static void readPutsTheTriggerThere() {
        TriggerLoom x = Checks.loom("a");
        x.sample(1, 5);
        x.grab(0, 0, 3);
        x.sendFrame(1, 1, 7);
        x.frames(1, 1);
        int marks = x.total(4);
        Checks.feed(x, "b;c");
        C.due("read", x.read(), 3);
        C.allDue("total behind read", x::total, 3, 0, 0, 4, marks, 0);
        C.due("armed: no SAMPLE came", x.held(0), Checks.UNKNOWN);
        C.due("the new TRIGGER", x.node(2, 8, 0), 6);
        C.due("NODES of the one before are gone", x.node(3, 8, 0), Checks.UNKNOWN);
        C.due("read of an empty TAPE", x.read(), -100);
    }

    private static void syntaxFaults() {
        faults("", 0, SYNTAX);
        faults("   ", 3, SYNTAX);
        faults("q", 0, SYNTAX);
        faults("A", 0, SYNTAX);
        faults("`", 0, SYNTAX);
        faults(" \t", 1, SYNTAX);
        faults("a\u00e1", 1, SYNTAX);
        faults("a?", 1, SYNTAX);
        faults("a b", 2, SYNTAX);
        faults("a;", 2, SYNTAX);
        faults("a;  ", 4, SYNTAX);
        faults("a;b;", 4, SYNTAX);
        faults("a&", 2, SYNTAX);
        faults("a/ /b", 3, SYNTAX);
        faults("&a", 0, SYNTAX);
        faults("+a", 0, SYNTAX);
        faults("a+-", 2, SYNTAX);
        faults("(a)+", 3, SYNTAX);
        faults("!", 1, SYNTAX);
        faults("a!", 1, SYNTAX);
        faults("(a", 2, SYNTAX);
        faults("(a;b", 4, SYNTAX);
        faults("()", 1, SYNTAX);
        faults("a)", 1, SYNTAX);
        faults("(a))", 3, SYNTAX);
        faults("a(b)", 1, SYNTAX);
        faults("3", 1, SYNTAX);
        faults("3a", 1, SYNTAX);
        faults("3 3*a", 2, SYNTAX);
        faults("3,5:a", 1, SYNTAX);
        faults("a,b", 1, SYNTAX);
        faults("a:b", 1, SYNTAX);
        faults("a;3", 3, SYNTAX);
        faults("a;3:b", 3, SYNTAX);
        faults("a;3 b", 4, SYNTAX);
        faults("a;3,b", 4, SYNTAX);
        faults("a;3,5", 5, SYNTAX);
        faults("a;3,5*b", 5, SYNTAX);
        faults("a;3,5 b", 6, SYNTAX);
        faults("a;3,5:", 6, SYNTAX);
        faults("a;3,5:3,6:b", 7, SYNTAX);
        faults("a;b/3,5:c", 5, SYNTAX);
        faults("a&3,5:b", 3, SYNTAX);
        faults("a;3?*b", 3, SYNTAX);
    }

    private static void numbers() {
        reads("1*a", 2);
        reads("999*a", 2);
        reads("007*a", 2);
        reads("a;1,999:b", 3);
        reads("a;7,7:b", 3);
        faults("0*a", 0, SYNTAX);
        faults("000*a", 0, SYNTAX);
        faults("1000*a", 0, SYNTAX);
        faults("0001*a", 0, SYNTAX);
        faults(" 99999999999999999999999999999999999*a", 1, SYNTAX);
        faults("1 0*a", 2, SYNTAX);
        faults("a;0,5:b", 2, SYNTAX);
        faults("a;5,0:b", 4, SYNTAX);
        faults("a;5,1000:b", 4, SYNTAX);
        faults("a&0", 2, SYNTAX);
        faults("a 0", 2, SYNTAX);
        TriggerLoom x = Checks.loom("007*a");
        C.due("the NUMBER of 007", x.node(1, 5, 3), 7);
    }

    private static void depth() {
        reads("!!!!!!!!!!a", 11);
        reads("((((((((((a))))))))))", 1);
        reads("2*2*2*2*2*2*2*2*2*2*a", 11);
        reads("!(2*!(2*!(2*(a))))", 7);
        reads("(((((!!!!!a)))))&!(((((((((a;1,2:b)))))))))", 11);
        reads("((((((((((a;1,2:b))))))))))", 3);
        faults("!!!!!!!!!!!a", 10, SYNTAX);
        faults("(((((((((((a", 10, SYNTAX);
        faults("2*2*2*2*2*2*2*2*2*2*2*a", 20, SYNTAX);
        faults("!(2*!(2*!(2* ! 3 *a", 15, SYNTAX);
        faults("((((((((((a;3*b", 12, SYNTAX);
        faults("((((((((((a;3)", 13, SYNTAX);
        faults("((((((((((a;1,2:!b", 16, SYNTAX);
        faults("((((((((((a/!b", 12, SYNTAX);
        faults("((((((((((!!?", 10, SYNTAX);
        faults("((((((((((a))))))))))&!!!!!!!!!!!b", 32, SYNTAX);
    }

    private static void spanFaults() {
        faults("a;5,4:b", 4, SPAN);
        faults("a; 12 , 3 : b", 8, SPAN);
        faults("a;1,2:b;9,8:c;7,6:d", 10, SPAN);
        faults("(a;9,8:b);1,1:(c;7,6:d)", 5, SPAN);
        faults("a;1,2:(b;9,8:c)", 11, SPAN);
        faults("a;5,4:b;", 8, SYNTAX);
        faults("a;5,4", 5, SYNTAX);
        faults("a;5,4:b;1000*a", 8, SYNTAX);
    }

    private static void faultLeavesAll() {
        TriggerLoom x = Checks.loom("a;b");
        Checks.samples(x, 1, 2, 1);
        Checks.feed(x, "c;5,4:d");
        C.due("read", x.read(), -104);
        C.due("fault()", x.fault(), SPAN);
        C.allDue("total behind a FAULT", x::total, 3, 3, 1, 0, 0, 7);
        C.due("waits stays", x.waits(2), 2);
        C.due("wires stay", x.node(0, 0, 1), 0);
        C.due("fault() again", x.fault(), SPAN);
        Checks.feed(x, ";");
        C.due("the TAPE went on", x.read(), -108);
        C.due("fault() of the latest", x.fault(), SYNTAX);
        x.cut();
        C.due("cut leaves fault()", x.fault(), SYNTAX);
        Checks.feed(x, "d");
        C.due("read", x.read(), 1);
        C.due("fault() of a good one", x.fault(), 0);
    }

    private static void nodeDetails() {
        TriggerLoom x = Checks.loom("c;3,40:!(b-/p~)&5*a");
        detail(x, 0, 0, 2, Checks.NONE, Checks.NONE, Checks.NONE);
        detail(x, 1, 1, 1, 1, Checks.NONE, Checks.NONE);
        detail(x, 2, 1, 15, 2, Checks.NONE, Checks.NONE);
        detail(x, 3, 4, 1, 2, Checks.NONE, Checks.NONE);
        detail(x, 4, 2, 3, Checks.NONE, Checks.NONE, Checks.NONE);
        detail(x, 5, 0, 0, Checks.NONE, Checks.NONE, Checks.NONE);
        detail(x, 6, 5, 5, Checks.NONE, 5, Checks.NONE);
        detail(x, 7, 3, 4, 6, Checks.NONE, Checks.NONE);
        detail(x, 8, 7, 0, 7, 3, 40);
        x = Checks.loom("a+;b");
        detail(x, 0, 1, 0, 0, Checks.NONE, Checks.NONE);
        detail(x, 2, 6, 0, 1, Checks.NONE, Checks.NONE);
    }

    private static void nodeNumbering() {
        TriggerLoom x = Checks.loom("a/b/c");
        detail(x, 2, 4, 0, 1, Checks.NONE, Checks.NONE);
        detail(x, 4, 4, 2, 3, Checks.NONE, Checks.NONE);
        x = Checks.loom("a&b&c");
        detail(x, 2, 3, 0, 1, Checks.NONE, Checks.NONE);
        detail(x, 4, 3, 2, 3, Checks.NONE, Checks.NONE);
        x = Checks.loom("a/b&c");
        detail(x, 3, 3, 1, 2, Checks.NONE, Checks.NONE);
        detail(x, 4, 4, 0, 3, Checks.NONE, Checks.NONE);
        x = Checks.loom("a;b;1,2:c");
        detail(x, 2, 6, 0, 1, Checks.NONE, Checks.NONE);
        detail(x, 4, 7, 2, 3, 1, 2);
        x = Checks.loom("a&(b;c)");
        detail(x, 3, 6, 1, 2, Checks.NONE, Checks.NONE);
        detail(x, 4, 3, 0, 3, Checks.NONE, Checks.NONE);
        x = Checks.loom("2*!a&b");
        detail(x, 1, 2, 0, Checks.NONE, Checks.NONE, Checks.NONE);
        detail(x, 2, 5, 1, Checks.NONE, 2, Checks.NONE);
        detail(x, 4, 3, 2, 3, Checks.NONE, Checks.NONE);
    }

    private static void nodeRefusals() {
        TriggerLoom x = Checks.loom("a&b+;!c/2*(d;1,1:e)");
        int[] kinds = {0, 1, 3, 0, 2, 0, 0, 7, 5, 4, 6};
        for (int n = 0; n < kinds.length; n++) {
            for (int kind = 0; kind <= 8; kind++) {
                boolean fits = kind == 8 || kind == kinds[n] || kind == 0 && kinds[n] == 1 || kind == 6 && kinds[n] == 7;
                C.due("node(" + n + ", " + kind + ", 0)", x.node(n, kind, 0), fits ? kinds[n] : Checks.CAST);
            }
        }
        C.due("node(-1, 8, 0)", x.node(-1, 8, 0), Checks.UNKNOWN);
        C.due("node(11, 8, 0)", x.node(11, 8, 0), Checks.UNKNOWN);
        C.due("node(MAX, 9, 9)", x.node(Integer.MAX_VALUE, 9, 9), Checks.UNKNOWN);
        C.due("node(MIN, 9, 9)", x.node(Integer.MIN_VALUE, 9, 9), Checks.UNKNOWN);
        C.due("node(0, 9, 0)", x.node(0, 9, 0), Checks.BAD);
        C.due("node(0, -1, 0)", x.node(0, -1, 0), Checks.BAD);
        C.due("node(0, 8, 5)", x.node(0, 8, 5), Checks.BAD);
        C.due("node(0, 8, -1)", x.node(0, 8, -1), Checks.BAD);
        C.due("BAD is told ahead of CAST", x.node(0, 1, 5), Checks.BAD);
        C.due("CAST with a what that it has not", x.node(0, 1, 4), Checks.CAST);
    }

    private static void detail(TriggerLoom x, int n, int... want) {
        C.allDue("node(" + n + ", 8, ..)", what -> x.node(n, 8, what), want);
    }

    private static void reads(String text, int nodes) {
        TriggerLoom x = new TriggerLoom();
        Checks.feed(x, text);
        C.due("read of '" + text + "'", x.read(), nodes);
        C.due("fault of '" + text + "'", x.fault(), 0);
        C.due("NODES of '" + text + "'", x.total(0), nodes);
        C.due("THE TAPE behind '" + text + "'", x.total(5), 0);
    }

    private static void faults(String text, int place, int kind) {
        TriggerLoom x = new TriggerLoom();
        Checks.feed(x, text);
        C.due("read of '" + text + "'", x.read(), -100 - place);
        C.due("fault of '" + text + "'", x.fault(), kind);
        C.due("NODES of '" + text + "'", x.total(0), 0);
        C.due("THE TAPE behind '" + text + "'", x.total(5), text.length());
    }
}
