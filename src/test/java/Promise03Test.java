/** Promise 3: cut. */
public final class Promise03Test {
    private static final Checks C = new Checks("Promise 3");

    public static void main(String[] args) {
        empty();
        howMany();
        tapeIsEmpty();
        allElseStays();
        C.finish();
    }

    private static void empty() {
        C.sentence("how many bytes it had: none");
        TriggerLoom x = new TriggerLoom();
        C.due("cut of a new object's", x.cut(), 0);
        C.due("again", x.cut(), 0);
        Looms.feed(x, "a");
        x.read();
        C.due("behind a read without a FAULT", x.cut(), 0);
    }

    private static void howMany() {
        C.sentence("how many bytes it had");
        TriggerLoom x = new TriggerLoom();
        for (int size = 0; size <= 60; size++) {
            Looms.feed(x, "?".repeat(size));
            C.due("cut", x.cut(), size);
        }
        Looms.feed(x, "a;");
        x.read();
        C.due("behind a read with a FAULT", x.cut(), 2);
    }

    private static void tapeIsEmpty() {
        C.sentence("THE TAPE is empty");
        TriggerLoom x = new TriggerLoom();
        Looms.feed(x, "q".repeat(60));
        x.cut();
        C.due("total(5)", x.total(5), 0);
        C.due("cut again", x.cut(), 0);
        C.due("feed", Looms.feed(x, "a&b" + " ".repeat(57)), 60);
        C.due("what was cut is not read", x.read(), 3);
        Looms.feed(x, "abc");
        x.cut();
        C.due("read of what is empty", x.read(), -100);
    }

    private static void allElseStays() {
        C.sentence("THE TAPE is empty, and all else as it was");
        TriggerLoom x = Looms.busy();
        TriggerLoom twin = Looms.busy();
        C.due("cut", x.cut(), 2);
        C.due("fault()", x.fault(), 1);
        C.due("feed the same again", Looms.feed(x, "c;"), 2);
        C.alike("behind cut", x, twin);
    }
}
