/** Random runs of calls, each answer compared with the Model's; any promise. */
public final class ModelTest {
    private static final int RUNS = 1500;
    private static final int CALLS = 400;
    private static final Checks C = new Checks("ModelTest");
    private static final int[] WILD = {
        Integer.MIN_VALUE, Integer.MAX_VALUE, -1, -2, 1001, 65536, 4000, 500, 501, 16, 256, 400, 1000000000, -9
    };

    // A seed that is written down makes each run of the test the same.
    private long seed;
    private TriggerLoom x;
    private Model m;
    private String text;
    // One call of so many lets many SAMPLES come.
    private int seldomLong;

    public static void main(String[] args) {
        for (int run = 0; run < RUNS; run++) {
            new ModelTest().runOf(run);
        }
        C.finish();
    }

    private void runOf(int run) {
        seed = run * 7919L + 17;
        x = new TriggerLoom();
        m = new Model();
        text = "";
        // Some runs read often, others let SAMPLES come.
        int texts = run % 4 == 0 ? 60 : run % 4 == 1 ? 1 : 6;
        // And some come to 4000.
        seldomLong = run % 4 == 1 ? 5 : 60;
        for (int call = 0; call < CALLS; call++) {
            String where = "run " + run + ", call " + call + ", text '" + text + "', ";
            if (pick(100) < texts || call == 0) {
                call += readAText(where);
            } else {
                call(where);
            }
        }
    }

    private int pick(int below) {
        seed = seed * 6364136223846793005L + 1442695040888963407L;
        return (int) ((seed >>> 33) % below);
    }

    private int readAText(String where) {
        text = pick(4) == 0 ? spoiled(row(pick(13))) : row(pick(4));
        if (pick(12) == 0) {
            text = "(((((((((((".substring(pick(5)) + text + "))))))))))))".substring(pick(5));
        }
        int calls = 0;
        for (int from = 0; from < text.length(); from += 8) {
            long w = 0;
            for (int i = Math.min(from + 8, text.length()) - 1; i >= from; i--) {
                w = w << 8 | text.charAt(i);
            }
            C.due(where + "feed(" + w + ")", x.feed(w), m.feed(w));
            calls++;
        }
        C.due(where + "read of '" + text + "'", x.read(), m.read());
        C.due(where + "fault of '" + text + "'", x.fault(), m.fault());
        C.due(where + "total(5)", x.total(5), m.total(5));
        if (m.fault() != 0 && pick(4) != 0) {
            C.due(where + "cut", x.cut(), m.cut());
        }
        return calls + 3;
    }

    private String row(int size) {
        String row = either(size);
        while (pick(3) == 0) {
            int low = pick(12) == 0 ? 1 + pick(999) : 1 + pick(6);
            String span = pick(2) == 0 ? low + "," + (pick(20) == 0 ? pick(low + 1) : low + pick(9)) + ":" : "";
            row += blank() + ";" + span + blank() + either(size / 2);
        }
        return row;
    }

    private String either(int size) {
        return both(size) + (pick(4) == 0 ? blank() + "/" + both(size / 2) : "");
    }

    private String both(int size) {
        return one(size) + (pick(4) == 0 ? "&" + blank() + one(size / 2) : "");
    }

    private String one(int size) {
        String wire = "" + (char) ('a' + pick(pick(8) == 0 ? 16 : 3));
        if (size <= 0 || pick(3) == 0) {
            return wire + (pick(2) == 0 ? "" : "+-~".charAt(pick(3)));
        }
        switch (pick(3)) {
            case 0:
                return "!" + blank() + one(size - 1);
            case 1:
                return (pick(12) == 0 ? pick(1001) : 1 + pick(4)) + "*" + one(size - 1);
            default:
                return "(" + row(size - 1) + blank() + ")";
        }
    }

    private String blank() {
        return pick(8) == 0 ? " " : "";
    }

    private String spoiled(String good) {
        StringBuilder s = new StringBuilder(good);
        for (int i = pick(3); i >= 0; i--) {
            String signs = "abp;:,/&*!+-~()0123456789 qA\u00ff\t;;,:*(!";
            String more = pick(4) == 0 ? "" : "" + signs.charAt(pick(signs.length()));
            int at = pick(s.length() + 1);
            s.replace(at, Math.min(s.length(), at + pick(2)), more);
        }
        return s.toString();
    }

    /** A number that is good most times. */
    private int number(int below) {
        return pick(25) == 0 ? WILD[pick(WILD.length)] : pick(below);
    }

    private int wire() {
        return number(pick(3) == 0 ? 16 : 3);
    }

    private void call(String where) {
        int a = 0;
        int b = 0;
        int c = 0;
        switch (pick(24)) {
            case 0, 1, 2, 3, 4, 5:
                a = number(8);
                b = pick(seldomLong) == 0 ? number(1200) : pick(3) + (pick(90) == 0 ? 0 : 1);
                C.due(where + "sample(" + a + ", " + b + ")", x.sample(a, b), m.sample(a, b));
                return;
            case 6:
                a = number(12);
                C.due(where + "waits(" + a + ")", x.waits(a), m.waits(a));
                return;
            case 7:
                a = number(12);
                C.due(where + "holds(" + a + ")", x.holds(a), m.holds(a));
                return;
            case 8:
                a = number(Math.max(1, m.total(1) + 2));
                C.due(where + "held(" + a + ")", x.held(a), m.held(a));
                C.due(where + "at(" + a + ")", x.at(a), m.at(a));
                return;
            case 9:
                a = number(Math.max(1, m.total(2) + 1));
                C.due(where + "when(" + a + ")", x.when(a), m.when(a));
                return;
            case 10:
                a = number(12);
                b = number(9);
                c = number(5);
                C.due(where + "node(" + a + ", " + b + ", " + c + ")", x.node(a, b, c), m.node(a, b, c));
                return;
            case 11, 12:
                a = number(Math.max(1, m.total(2) + 1));
                b = number(pick(4) == 0 ? 501 : 9);
                c = number(pick(4) == 0 ? 501 : 9);
                C.due(where + "grab(" + a + ", " + b + ", " + c + ")", x.grab(a, b, c), m.grab(a, b, c));
                return;
            case 13:
                a = number(m.total(3) + 1);
                C.due(where + "caught(" + a + ")", x.caught(a), m.caught(a));
                return;
            case 14:
                C.due(where + "runs()", x.runs(), m.runs());
                a = number(m.runs() + 1);
                b = number(2);
                C.due(where + "run(" + a + ", " + b + ")", x.run(a, b), m.run(a, b));
                return;
            case 15:
                a = number(pick(2) == 0 ? 8 : 65536);
                C.due(where + "squeezed(" + a + ")", x.squeezed(a), m.squeezed(a));
                return;
            case 16:
                a = wire();
                b = number(pick(2) == 0 ? 5 : 21);
                C.due(where + "frames(" + a + ", " + b + ")", x.frames(a, b), m.frames(a, b));
                return;
            case 17:
                a = wire();
                b = wire();
                C.due(where + "bytes(" + a + ", " + b + ")", x.bytes(a, b), m.bytes(a, b));
                return;
            case 18, 19:
                a = number(m.total(4) + 1);
                b = number(3);
                C.due(where + "mark(" + a + ", " + b + ")", x.mark(a, b), m.mark(a, b));
                return;
            case 20:
                a = wire();
                b = number(5);
                c = number(256);
                C.due(where + "sendFrame(" + a + ", " + b + ", " + c + ")", x.sendFrame(a, b, c), m.sendFrame(a, b, c));
                return;
            case 21:
                a = wire();
                b = wire();
                c = number(256);
                boolean start = pick(2) == 0;
                boolean stop = pick(2) == 0;
                C.due(where + "sendByte(" + a + ", " + b + ", " + c + ", " + start + ", " + stop + ")",
                        x.sendByte(a, b, c, start, stop), m.sendByte(a, b, c, start, stop));
                return;
            case 22:
                a = number(6);
                C.due(where + "total(" + a + ")", x.total(a), m.total(a));
                return;
            default:
                if (pick(10) == 0) {
                    C.due(where + "arm()", x.arm(), m.arm());
                }
                C.due(where + "fault()", x.fault(), m.fault());
        }
    }
}
