/** Promise 1: a new object. */
public final class Promise01Test {
    private static final int UNKNOWN = Checks.UNKNOWN, STATE = Checks.STATE, NONE = Checks.NONE;
    private static final Checks C = new Checks("Promise 1");

    public static void main(String[] args) {
        noTrigger();
        noSamples();
        nothingElse();
        oneIsNotAnother();
        C.finish();
    }

    private static void noTrigger() {
        C.sentence("No TRIGGER");
        TriggerLoom x = new TriggerLoom();
        C.due("total(0)", x.total(0), 0);
        C.due("arm()", x.arm(), STATE);
        C.due("sample(0, 1)", x.sample(0, 1), STATE);
        C.due("sendFrame(0, 1, 0)", x.sendFrame(0, 1, 0), STATE);
        C.due("sendByte(0, 1, 0, true, true)", x.sendByte(0, 1, 0, true, true), STATE);
        C.due("node(0, 8, 0)", x.node(0, 8, 0), UNKNOWN);
        C.due("holds(0)", x.holds(0), UNKNOWN);
        C.due("waits(0)", x.waits(0), UNKNOWN);
    }

    private static void noSamples() {
        C.sentence("no SAMPLES");
        TriggerLoom x = new TriggerLoom();
        C.due("total(1)", x.total(1), 0);
        C.due("held(0)", x.held(0), UNKNOWN);
        C.due("at(0)", x.at(0), UNKNOWN);
        C.due("when(0)", x.when(0), NONE);
        C.due("grab(0, 0, 0)", x.grab(0, 0, 0), UNKNOWN);
        C.due("frames(0, 1)", x.frames(0, 1), 0);
        C.due("bytes(0, 1)", x.bytes(0, 1), 0);
    }

    private static void nothingElse() {
        C.sentence("A new object");
        TriggerLoom x = new TriggerLoom();
        C.allDue("total", x::total, 0, 0, 0, 0, 0, 0);
        C.due("fault()", x.fault(), 0);
        C.due("caught(0)", x.caught(0), NONE);
        C.due("runs()", x.runs(), 0);
        C.due("run(0, 0)", x.run(0, 0), UNKNOWN);
        C.due("squeezed(65535)", x.squeezed(65535), 0);
        C.due("mark(0, 0)", x.mark(0, 0), UNKNOWN);
        C.due("feed(0)", x.feed(0), 0);
        C.due("cut()", x.cut(), 0);
        C.due("read()", x.read(), -100);
    }

    private static void oneIsNotAnother() {
        C.sentence("A new object");
        TriggerLoom x = Looms.busy();
        TriggerLoom other = new TriggerLoom();
        C.allDue("total of another", other::total, 0, 0, 0, 0, 0, 0);
        Looms.feed(other, "p");
        other.read();
        Looms.samples(other, 32768, 0);
        C.alike("one beside another", x, Looms.busy());
    }
}
