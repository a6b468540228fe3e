/** FRAMES and BYTES, read and sent: promises 19 to 23, Terms 3. */
public final class MarkTest {
    private static final int NONE = Checks.NONE, UNKNOWN = Checks.UNKNOWN, BAD = Checks.BAD;
    private static final int STATE = Checks.STATE, FULL = Checks.FULL;
    private static final int BYTE = 0, START = 1, STOP = 2, FAULT = 3;
    private static final int CLOCK = 7, DATA = 3;
    private static final Checks C = new Checks("MarkTest");

    public static void main(String[] args) {
        framesOfOne();
        framesOfEachWidth();
        frameFaults();
        framesBehindFaults();
        framesEnd();
        framesAtMost();
        framesRefusals();
        bytes();
        byteStarts();
        bytesBeginAnew();
        byteStops();
        bytesAtMost();
        faultIsTheLastMark();
        bytesRefusals();
        marks();
        marksStay();
        sendFrame();
        sendFrameRefusals();
        sendFrameFull();
        sendByte();
        sendByteReadAgain();
        sendByteRefusals();
        sendByteFull();
        C.finish();
    }

    private static void framesOfOne() {
        TriggerLoom x = wave("1" + "0" + "11001010" + "1" + "0" + "00000001" + "1");
        C.due("frames(0, 1)", x.frames(0, 1), 2);
        mark(x, 0, BYTE, 0x53, 1);
        mark(x, 1, BYTE, 0x80, 11);
        x = wave("0" + "10101010" + "1" + "0" + "01010101" + "1");
        C.due("a BEGINNING at TICK 0", x.frames(0, 1), 2);
        mark(x, 0, BYTE, 0x55, 0);
        mark(x, 1, BYTE, 0xAA, 10);
        C.due("another WIRE, never 1", x.frames(15, 1), 1);
        mark(x, 0, FAULT, NONE, 9);
        C.due("a WIRE never 0", wave("1111111111111").frames(0, 1), 0);
    }

    private static void framesOfEachWidth() {
        for (int width = 1; width <= 20; width++) {
            TriggerLoom x = Checks.loom("a");
            x.sample(65535, 3);
            x.sendFrame(9, width, 0xC5);
            x.sendFrame(9, width, 0x3A);
            C.due("frames(9, " + width + ")", x.frames(9, width), 2);
            mark(x, 0, BYTE, 0xC5, 3);
            mark(x, 1, BYTE, 0x3A, 3 + 10 * width);
        }
    }

    private static void frameFaults() {
        TriggerLoom x = wave("1011111");
        C.due("1 in the middle of WIDTH 2", x.frames(0, 2), 1);
        mark(x, 0, FAULT, NONE, 2);
        x = wave("10011111");
        C.due("1 in the middle of WIDTH 5", x.frames(0, 5), 1);
        mark(x, 0, FAULT, NONE, 3);
        C.due("0 in the middle of WIDTH 3", x.frames(0, 3), 0);
        x = wave("1" + "0" + "11111111" + "0" + "1" + "0" + "00000000" + "1");
        C.due("0 where 1 has to be", x.frames(0, 1), 2);
        mark(x, 0, FAULT, NONE, 10);
        mark(x, 1, BYTE, 0, 12);
    }

    private static void framesBehindFaults() {
        TriggerLoom x = wave("1" + "0" + "00000000" + "0" + "00000" + "1" + "0" + "11111111" + "1");
        C.due("0 behind 0 is no BEGINNING", x.frames(0, 1), 2);
        mark(x, 0, FAULT, NONE, 10);
        mark(x, 1, BYTE, 255, 17);
        x = wave("1001" + "0000" + "1111" + "0000".repeat(7) + "1111");
        C.due("the TICK looked at last is one ahead", x.frames(0, 4), 2);
        mark(x, 0, FAULT, NONE, 3);
        mark(x, 1, BYTE, 1, 4);
        x = wave("10101111");
        C.due("what lies between is not looked at", x.frames(0, 6), 1);
        mark(x, 0, FAULT, NONE, 4);
    }

    private static void framesEnd() {
        TriggerLoom x = wave("1" + "0" + "11111111");
        C.due("the last bit has not come", x.frames(0, 1), 0);
        x.sample(1, 1);
        C.due("it has come", x.frames(0, 1), 1);
        x.sample(0, 4);
        C.due("the next has not come", x.frames(0, 1), 1);
        C.due("the middle has not come", wave("10").frames(0, 2), 0);
        C.due("a FAULT there needs no more", wave("1001").frames(0, 4), 1);
        C.due("it is ended, whatever is behind", wave("10000101").frames(0, 2), 0);
        C.due("no SAMPLES", wave("").frames(0, 1), 0);
    }

    private static void framesAtMost() {
        TriggerLoom x = Checks.loom("a");
        for (int i = 0; i < 400; i++) {
            x.sendFrame(3, 1, i & 255);
        }
        C.due("total(1)", x.total(1), 4000);
        C.due("frames(3, 1)", x.frames(3, 1), 400);
        mark(x, 399, BYTE, 399 & 255, 3990);
        x = Checks.loom("a");
        for (int i = 0; i < 100; i++) {
            x.sendFrame(0, 1, 0x55);
        }
        C.due("500 FAULTS", x.frames(0, 2), 400);
        C.due("total(4)", x.total(4), 400);
        mark(x, 0, FAULT, NONE, 1);
        mark(x, 399, FAULT, NONE, 799);
        C.due("mark(400, 0)", x.mark(400, 0), UNKNOWN);
        C.due("100 FRAMES", x.frames(0, 1), 100);
    }

    private static void framesRefusals() {
        TriggerLoom x = wave("0" + "10101010" + "1");
        C.due("frames(0, 1)", x.frames(0, 1), 1);
        C.due("frames(-1, 1)", x.frames(-1, 1), UNKNOWN);
        C.due("frames(16, 1)", x.frames(16, 1), UNKNOWN);
        C.due("UNKNOWN is told ahead of BAD", x.frames(16, 0), UNKNOWN);
        C.due("frames(0, 0)", x.frames(0, 0), BAD);
        C.due("frames(0, 21)", x.frames(0, 21), BAD);
        C.due("frames(0, MIN)", x.frames(0, Integer.MIN_VALUE), BAD);
        C.due("frames(MAX, 1)", x.frames(Integer.MAX_VALUE, 1), UNKNOWN);
        C.due("what is refused changes nothing", x.total(4), 1);
        mark(x, 0, BYTE, 0x55, 0);
    }

    private static void bytes() {
        TriggerLoom x = two("32" + "131" + "020".repeat(6) + "131" + "023");
        C.due("START, BYTE, STOP", x.bytes(CLOCK, DATA), 3);
        mark(x, 0, START, NONE, 1);
        mark(x, 1, BYTE, 0x81, 25);
        mark(x, 2, STOP, NONE, 28);
        x = two("32" + "030".repeat(8) + "020".repeat(7) + "131");
        C.due("data at the TICK ahead is the bit", x.bytes(CLOCK, DATA), 3);
        mark(x, 1, BYTE, 255, 25);
        mark(x, 2, BYTE, 1, 49);
        x = two("32" + "131".repeat(3) + "020".repeat(4));
        C.due("seven bits", x.bytes(CLOCK, DATA), 1);
        Checks.samples(x, 0, 1 << CLOCK | 1 << DATA);
        C.due("eight bits, clock 1 still", x.bytes(CLOCK, DATA), 1);
        Checks.samples(x, 0);
        C.due("eight bits", x.bytes(CLOCK, DATA), 2);
        mark(x, 1, BYTE, 0xE1, 25);
        C.due("no SAMPLES", two("").bytes(CLOCK, DATA), 0);
    }

    private static void byteStarts() {
        C.due("bits without a START", two("0" + "131".repeat(16)).bytes(CLOCK, DATA), 0);
        C.due("no TICK ahead", two("2").bytes(CLOCK, DATA), 0);
        C.due("data falls with clock 0", two("10" + "131".repeat(16)).bytes(CLOCK, DATA), 0);
        C.due("data falls as clock rises", two("12" + "131".repeat(16)).bytes(CLOCK, DATA), 0);
        C.due("data falls as clock falls", two("30" + "131".repeat(16)).bytes(CLOCK, DATA), 0);
        TriggerLoom x = two("32" + "131" + "320" + "020".repeat(7) + "131");
        C.due("a START again, its bits from there on", x.bytes(CLOCK, DATA), 3);
        mark(x, 0, START, NONE, 1);
        mark(x, 1, START, NONE, 6);
        mark(x, 2, BYTE, 1, 31);
    }

    private static void bytesBeginAnew() {
        TriggerLoom x = two("32" + "131");
        C.due("a START without a STOP", x.bytes(CLOCK, DATA), 1);
        x.arm();
        Checks.samples(x, 1 << CLOCK, 1 << CLOCK | 1 << DATA);
        C.due("that START is gone", x.bytes(CLOCK, DATA), 0);
    }

    private static void byteStops() {
        TriggerLoom x = two("323");
        C.due("no bits", x.bytes(CLOCK, DATA), 2);
        mark(x, 1, STOP, NONE, 2);
        x = two("32" + "131" + "023");
        C.due("bits left", x.bytes(CLOCK, DATA), 3);
        mark(x, 0, START, NONE, 1);
        mark(x, 1, FAULT, NONE, 7);
        mark(x, 2, STOP, NONE, 7);
        C.due("STOP without a START", two("23").bytes(CLOCK, DATA), 0);
        x = two("323" + "131".repeat(8) + "023" + "2" + "020".repeat(8) + "23");
        C.due("behind a STOP there is no START", x.bytes(CLOCK, DATA), 5);
        mark(x, 2, START, NONE, 30);
        mark(x, 3, BYTE, 0, 54);
        mark(x, 4, STOP, NONE, 56);
    }

    private static void bytesAtMost() {
        TriggerLoom x = Checks.loom("a");
        x.sample(1 << CLOCK | 1 << DATA, 1);
        for (int i = 0; i < 50; i++) {
            x.sendFrame(DATA, 1, 0x55);
        }
        C.due("250 STARTS and STOPS", x.bytes(CLOCK, DATA), 400);
        mark(x, 398, START, NONE, 399);
        mark(x, 399, STOP, NONE, 400);
        C.due("mark(400, 2)", x.mark(400, 2), UNKNOWN);
    }

    /** A FAULT that is MARK 399 leaves no room for its STOP. */
    private static void faultIsTheLastMark() {
        TriggerLoom x = Checks.loom("a");
        x.sendByte(CLOCK, DATA, 0, true, true);
        for (int i = 0; i < 39; i++) {
            x.sendFrame(DATA, 1, 0x55);
        }
        int c = 1 << CLOCK;
        int d = 1 << DATA;
        Checks.samples(x, c, c | d, c, c | d);
        C.due("397 MARKS", x.bytes(CLOCK, DATA), 397);
        x.sendByte(CLOCK, DATA, 9, true, false);
        C.due("399 MARKS", x.bytes(CLOCK, DATA), 399);
        Checks.samples(x, 0, c, 0, c, c | d);
        C.due("400 MARKS", x.bytes(CLOCK, DATA), 400);
        mark(x, 398, BYTE, 9, x.total(1) - 6);
        mark(x, 399, FAULT, NONE, x.total(1) - 1);
    }

    private static void bytesRefusals() {
        TriggerLoom x = two("32");
        C.due("bytes", x.bytes(CLOCK, DATA), 1);
        C.due("bytes(-1, 0)", x.bytes(-1, 0), UNKNOWN);
        C.due("bytes(0, -1)", x.bytes(0, -1), UNKNOWN);
        C.due("bytes(16, 0)", x.bytes(16, 0), UNKNOWN);
        C.due("bytes(0, MAX)", x.bytes(0, Integer.MAX_VALUE), UNKNOWN);
        C.due("UNKNOWN is told ahead of BAD", x.bytes(16, 16), UNKNOWN);
        C.due("bytes(15, 15)", x.bytes(15, 15), BAD);
        C.due("what is refused changes nothing", x.total(4), 1);
        C.due("bytes the other way about", x.bytes(DATA, CLOCK), 0);
        C.due("total(4)", x.total(4), 0);
    }

    private static void marks() {
        TriggerLoom x = two("323");
        C.due("mark of nothing read", x.mark(0, 0), UNKNOWN);
        x.bytes(CLOCK, DATA);
        C.due("mark(-1, 0)", x.mark(-1, 0), UNKNOWN);
        C.due("mark(2, 0)", x.mark(2, 0), UNKNOWN);
        C.due("mark(MAX, 0)", x.mark(Integer.MAX_VALUE, 0), UNKNOWN);
        C.due("mark(MIN, 0)", x.mark(Integer.MIN_VALUE, 0), UNKNOWN);
        C.due("UNKNOWN is told ahead of BAD", x.mark(2, 3), UNKNOWN);
        C.due("mark(0, 3)", x.mark(0, 3), BAD);
        C.due("mark(0, -1)", x.mark(0, -1), BAD);
    }

    private static void marksStay() {
        TriggerLoom x = two("323");
        x.bytes(CLOCK, DATA);
        x.sample(0, 50);
        x.arm();
        Checks.feed(x, "b");
        x.read();
        C.due("total(4)", x.total(4), 2);
        mark(x, 1, STOP, NONE, 2);
        x.sendFrame(0, 1, 77);
        x.frames(0, 1);
        C.due("MARKS of what was read last", x.total(4), 1);
        mark(x, 0, BYTE, 77, 0);
    }

    private static void sendFrame() {
        TriggerLoom x = Checks.loom("b");
        C.due("the first SAMPLES", x.sendFrame(1, 1, 0x96), 5);
        C.allDue("at", x::at, 0, 0, 2, 2, 0, 2, 0, 0, 2, 2, UNKNOWN);
        x.arm();
        x.sample(0x8005, 1);
        C.due("other WIRES as they were", x.sendFrame(1, 2, 0x96), 10);
        C.allDue("at", tick -> x.at(tick + 1), 0x8005, 0x8005, 0x8005, 0x8005, 0x8007, 0x8007, 0x8007, 0x8007,
                0x8005, 0x8005, 0x8007, 0x8007, 0x8005, 0x8005, 0x8005, 0x8005, 0x8007, 0x8007, 0x8007, 0x8007, UNKNOWN);
        C.due("width 20, WIRE 15", x.sendFrame(15, 20, 0), 200);
        C.due("total(1)", x.total(1), 221);
        C.due("at the last", x.at(220), 0x8007);
        C.due("at the first of them", x.at(21), 7);
    }

    private static void sendFrameRefusals() {
        TriggerLoom x = new TriggerLoom();
        C.due("UNKNOWN is told first", x.sendFrame(16, 0, 256), UNKNOWN);
        C.due("sendFrame(-1, 1, 0)", x.sendFrame(-1, 1, 0), UNKNOWN);
        C.due("BAD is told ahead of STATE", x.sendFrame(0, 0, 0), BAD);
        C.due("width 21", x.sendFrame(0, 21, 0), BAD);
        C.due("width MAX", x.sendFrame(0, Integer.MAX_VALUE, 0), BAD);
        C.due("byte -1", x.sendFrame(0, 1, -1), BAD);
        C.due("byte 256", x.sendFrame(0, 1, 256), BAD);
        C.due("STATE", x.sendFrame(0, 1, 255), STATE);
        C.due("nothing came", x.total(1), 0);
    }

    private static void sendFrameFull() {
        TriggerLoom x = almostFull(991);
        C.due("sendFrame to 4001", x.sendFrame(0, 1, 0), FULL);
        C.due("BAD is told ahead of FULL", x.sendFrame(0, 1, 256), BAD);
        C.due("nothing came", x.total(1), 3991);
        x = almostFull(990);
        C.due("sendFrame to 4000", x.sendFrame(0, 1, 0), 1);
        C.due("all came", x.total(1), 4000);
    }

    private static void sendByte() {
        TriggerLoom x = Checks.loom("a");
        x.sample(0x8000, 1);
        C.due("of clock a, data b", x.sendByte(0, 1, 0x40, true, true), 8 + 2 + 2);
        C.allDue("at", tick -> x.at(tick) ^ 0x8000, 0, 3, 1, 0, 0, 1, 0, 2, 3, 2, 0, 1, 0, 0, 1, 0,
                0, 1, 0, 0, 1, 0, 0, 1, 0, 0, 1, 0, 0, 1, 3);
        C.due("total(1)", x.total(1), 31);
        C.due("without start and stop", x.sendByte(0, 1, 255, false, false), 8);
        C.allDue("at", tick -> x.at(31 + tick) ^ 0x8000, 2, 3, 2, 2, 3, 2, 2, 3, 2, 2, 3, 2, 2, 3, 2, 2, 3, 2, 2, 3, 2, 2, 3, 2,
                UNKNOWN ^ 0x8000);
        C.due("with start alone", x.sendByte(0, 1, 0, true, false), 10);
        C.due("total(1)", x.total(1), 82);
        C.due("with stop alone", x.sendByte(0, 1, 0, false, true), 10);
        C.due("total(1)", x.total(1), 109);
        C.due("of clock p, data a", x.sendByte(15, 0, 0xF0, false, false), 12);
        C.due("at", x.at(109), 3);
        C.due("at", x.at(110), 0x8003);
        C.due("at the last", x.at(132), 2);
    }

    private static void sendByteReadAgain() {
        TriggerLoom x = Checks.loom("a");
        for (int b = 0; b < 100; b++) {
            x.sendByte(4, 15, 255 - 2 * b, b % 10 == 0, b % 10 == 9);
        }
        C.due("bytes", x.bytes(4, 15), 120);
        for (int b = 0; b < 100; b++) {
            C.due("BYTE " + b, x.mark(b + 1 + 2 * (b / 10), 1), 255 - 2 * b);
        }
    }

    private static void sendByteRefusals() {
        TriggerLoom x = new TriggerLoom();
        C.due("UNKNOWN is told first", x.sendByte(16, 16, 256, true, true), UNKNOWN);
        C.due("sendByte(-1, 0, ..)", x.sendByte(-1, 0, 0, true, true), UNKNOWN);
        C.due("sendByte(0, 16, ..)", x.sendByte(0, 16, 0, false, false), UNKNOWN);
        C.due("BAD is told ahead of STATE", x.sendByte(3, 3, 0, true, true), BAD);
        C.due("byte -1", x.sendByte(0, 1, -1, true, true), BAD);
        C.due("byte 256", x.sendByte(0, 1, 256, true, true), BAD);
        C.due("STATE", x.sendByte(0, 1, 255, true, true), STATE);
        C.due("nothing came", x.total(1), 0);
    }

    private static void sendByteFull() {
        C.due("30 to 4001", almostFull(971).sendByte(1, 2, 0, true, true), FULL);
        C.due("30 to 4000", almostFull(970).sendByte(1, 2, 0, true, true), 30);
        C.due("start to 4001", almostFull(974).sendByte(1, 2, 0, true, false), FULL);
        C.due("start to 4000", almostFull(973).sendByte(1, 2, 0, true, false), 27);
        C.due("stop to 4001", almostFull(974).sendByte(1, 2, 0, false, true), FULL);
        C.due("stop to 4000", almostFull(973).sendByte(1, 2, 0, false, true), 27);
        TriggerLoom x = almostFull(977);
        C.due("24 to 4001", x.sendByte(1, 2, 0, false, false), FULL);
        C.due("BAD is told ahead of FULL", x.sendByte(1, 1, 0, false, false), BAD);
        C.due("nothing came", x.total(1), 3977);
        C.due("24 to 4000", almostFull(976).sendByte(1, 2, 0, false, false), 24);
    }

    /** 3000 SAMPLES and so many more, WIRE a is the TRIGGER and 1. */
    private static TriggerLoom almostFull(int more) {
        TriggerLoom x = Checks.loom("a");
        for (int i = 0; i < 3; i++) {
            x.sample(1, 1000);
        }
        x.sample(1, more);
        return x;
    }

    /** WIRE a at each TICK. */
    private static TriggerLoom wave(String levels) {
        TriggerLoom x = Checks.loom("a");
        for (int i = 0; i < levels.length(); i++) {
            x.sample(levels.charAt(i) - '0', 1);
        }
        return x;
    }

    /** Clock and data at each TICK: 0 none is 1, 1 data, 2 clock, 3 both. */
    private static TriggerLoom two(String levels) {
        TriggerLoom x = Checks.loom("a");
        for (int i = 0; i < levels.length(); i++) {
            int both = levels.charAt(i) - '0';
            x.sample((both >> 1) << CLOCK | (both & 1) << DATA, 1);
        }
        return x;
    }

    private static void mark(TriggerLoom x, int i, int... want) {
        C.allDue("mark(" + i + ", ..)", what -> x.mark(i, what), want);
    }
}
