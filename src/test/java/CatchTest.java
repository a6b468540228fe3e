/** What is CAUGHT, and its runs: promises 14 to 18. */
public final class CatchTest {
    private static final int NONE = Checks.NONE, UNKNOWN = Checks.UNKNOWN, BAD = Checks.BAD;
    private static final Checks C = new Checks("CatchTest");

    public static void main(String[] args) {
        grab();
        grabAll();
        grabRefusals();
        caughtStays();
        runs();
        squeezed();
        C.finish();
    }

    private static void grab() {
        TriggerLoom x = Checks.loom("a");
        Checks.samples(x, 10, 20, 30, 41, 50, 61, 70, 80);
        C.due("grab(0, 2, 1)", x.grab(0, 2, 1), 4);
        C.allDue("caught", x::caught, 20, 30, 41, 50, NONE);
        C.due("grab(1, 0, 0)", x.grab(1, 0, 0), 1);
        C.allDue("caught instead of others", x::caught, 61, NONE, NONE);
        C.due("grab(0, 500, 0)", x.grab(0, 500, 0), 4);
        C.allDue("caught from the first", x::caught, 10, 20, 30, 41, NONE);
        C.due("grab(1, 0, 500)", x.grab(1, 0, 500), 3);
        C.allDue("caught to the latest", x::caught, 61, 70, 80, NONE);
        C.due("grab(0, 3, 4)", x.grab(0, 3, 4), 8);
        C.due("total(3)", x.total(3), 8);
        C.due("caught(-1)", x.caught(-1), NONE);
        C.due("caught(MIN)", x.caught(Integer.MIN_VALUE), NONE);
        C.due("caught(MAX)", x.caught(Integer.MAX_VALUE), NONE);
    }

    private static void grabAll() {
        TriggerLoom x = Checks.loom("a");
        for (int i = 0; i < 3; i++) {
            x.sample(2, 200);
            x.sample(4, 400);
        }
        x.sample(1, 1);
        x.sample(8, 900);
        C.due("grab(0, 500, 500)", x.grab(0, 500, 500), 1001);
        C.allDue("runs", r -> x.run(r, 0), 2, 4, 1, 8, UNKNOWN);
        C.allDue("lengths", r -> x.run(r, 1), 100, 400, 1, 500, UNKNOWN);
        C.due("caught, the last", x.caught(1000), 8);
        C.due("caught behind the last", x.caught(1001), NONE);
    }

    private static void grabRefusals() {
        TriggerLoom x = Checks.loom("a");
        Checks.samples(x, 1, 0, 1, 3);
        x.grab(1, 1, 0);
        C.due("grab(3, ..)", x.grab(3, 0, 0), UNKNOWN);
        C.due("grab(-1, ..)", x.grab(-1, 0, 0), UNKNOWN);
        C.due("grab(MAX, ..)", x.grab(Integer.MAX_VALUE, 0, 0), UNKNOWN);
        C.due("UNKNOWN is told ahead of BAD", x.grab(3, -1, 501), UNKNOWN);
        C.due("ahead -1", x.grab(0, -1, 0), BAD);
        C.due("ahead 501", x.grab(0, 501, 0), BAD);
        C.due("behind -1", x.grab(0, 0, -1), BAD);
        C.due("behind 501", x.grab(0, 0, 501), BAD);
        C.due("behind MAX", x.grab(0, 0, Integer.MAX_VALUE), BAD);
        C.due("ahead MIN", x.grab(0, Integer.MIN_VALUE, 0), BAD);
        C.allDue("what is refused changes nothing", x::caught, 0, 1, NONE);
        C.due("ahead 500, behind 500", x.grab(0, 500, 500), 4);
    }

    private static void caughtStays() {
        TriggerLoom x = Checks.loom("a");
        Checks.samples(x, 5, 7, 9);
        x.grab(1, 1, 1);
        x.sample(11, 2);
        C.due("total(3) behind sample", x.total(3), 3);
        x.arm();
        C.allDue("caught behind arm", x::caught, 5, 7, 9, NONE);
        Checks.samples(x, 100, 101);
        C.allDue("caught behind new SAMPLES", x::caught, 5, 7, 9, NONE);
        Checks.feed(x, "b");
        x.read();
        C.due("runs behind read", x.runs(), 3);
    }

    private static void runs() {
        TriggerLoom x = Checks.loom("p");
        C.due("runs of none", x.runs(), 0);
        C.due("run of none", x.run(0, 0), UNKNOWN);
        Checks.samples(x, 1, 1, 2, 32768, 32768, 32768, 1, 1, 1);
        x.grab(0, 3, 5);
        C.due("runs", x.runs(), 4);
        C.allDue("run(r, 0)", r -> x.run(r, 0), 1, 2, 32768, 1, UNKNOWN);
        C.allDue("run(r, 1)", r -> x.run(r, 1), 2, 1, 3, 3, UNKNOWN);
        C.due("run(-1, 0)", x.run(-1, 0), UNKNOWN);
        C.due("run(MAX, 0)", x.run(Integer.MAX_VALUE, 0), UNKNOWN);
        C.due("run(MIN, 1)", x.run(Integer.MIN_VALUE, 1), UNKNOWN);
        C.due("run(0, 2)", x.run(0, 2), BAD);
        C.due("run(0, -1)", x.run(0, -1), BAD);
        C.due("UNKNOWN is told ahead of BAD", x.run(4, 2), UNKNOWN);
        x.grab(0, 0, 0);
        C.due("runs of one", x.runs(), 1);
        C.due("its length", x.run(0, 1), 1);
    }

    private static void squeezed() {
        TriggerLoom x = Checks.loom("p");
        C.due("squeezed of none", x.squeezed(65535), 0);
        Checks.samples(x, 1, 3, 2, 32770, 32768, 32769, 1, 1);
        x.grab(0, 500, 500);
        C.due("squeezed(0)", x.squeezed(0), 1);
        C.due("squeezed(1)", x.squeezed(1), 3);
        C.due("squeezed(2)", x.squeezed(2), 3);
        C.due("squeezed(3)", x.squeezed(3), 5);
        C.due("squeezed(4)", x.squeezed(4), 1);
        C.due("squeezed(32768)", x.squeezed(32768), 3);
        C.due("squeezed(65535)", x.squeezed(65535), 7);
        C.due("squeezed(65536)", x.squeezed(65536), BAD);
        C.due("squeezed(-1)", x.squeezed(-1), BAD);
        C.due("squeezed(MAX)", x.squeezed(Integer.MAX_VALUE), BAD);
    }
}
