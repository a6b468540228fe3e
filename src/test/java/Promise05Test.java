/** Promise 5: fault. */
public final class Promise05Test {
    private static final int NO_FAULT = 0, SYNTAX = 1, SPAN = 2;
    private static final Checks C = new Checks("Promise 5");

    public static void main(String[] args) {
        none();
        kinds();
        ofTheLatest();
        otherCallsLeaveIt();
        C.finish();
    }

    private static void none() {
        C.sentence("0: none");
        TriggerLoom x = new TriggerLoom();
        C.due("fault() ahead of the first read", x.fault(), NO_FAULT);
        Looms.feed(x, "a;");
        C.due("fault() of what is not read yet", x.fault(), NO_FAULT);
        x.cut();
        Looms.feed(x, "a");
        x.read();
        C.due("fault() of a read without one", x.fault(), NO_FAULT);
    }

    private static void kinds() {
        C.sentence("The kind of the FAULT");
        C.faults("a;", 2, SYNTAX);
        C.faults("0*a", 0, SYNTAX);
        C.faults("!!!!!!!!!!!a", 10, SYNTAX);
        C.faults("", 0, SYNTAX);
        C.faults("a;2,1:b", 4, SPAN);
        C.faults("a;2,1:b;", 8, SYNTAX);
    }

    private static void ofTheLatest() {
        C.sentence("of the latest read()");
        TriggerLoom x = new TriggerLoom();
        int[] kinds = {SPAN, SYNTAX, NO_FAULT, SYNTAX, SPAN, NO_FAULT, SPAN};
        for (int kind : kinds) {
            x.cut();
            Looms.feed(x, kind == SPAN ? "a;2,1:b" : kind == SYNTAX ? "a;2,3" : "a;2,3:b");
            x.read();
            C.due("fault()", x.fault(), kind);
            C.due("fault() again", x.fault(), kind);
        }
    }

    private static void otherCallsLeaveIt() {
        C.sentence("of the latest read(): no other call changes it");
        for (String text : new String[] {"c;2,1:d", "c;"}) {
            TriggerLoom x = Looms.loom("a");
            Looms.feed(x, text);
            x.read();
            int kind = x.fault();
            C.due("fault() of '" + text + "'", kind, text.equals("c;") ? SYNTAX : SPAN);
            Looms.samples(x, 1, 0, 1);
            x.sendFrame(0, 1, 7);
            x.sendByte(0, 1, 7, true, true);
            x.grab(0, 1, 1);
            x.frames(0, 1);
            x.bytes(0, 1);
            x.arm();
            x.cut();
            Looms.feed(x, "d");
            C.due("fault() behind other calls", x.fault(), kind);
        }
    }
}
