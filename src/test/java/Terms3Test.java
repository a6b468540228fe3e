/** Terms 3: FRAMES of a WIRE, BYTES of two, and the MARKS that are read so. */
public final class Terms3Test {
    private static final int NONE = Checks.NONE, UNKNOWN = Checks.UNKNOWN;
    private static final int BYTE = 0, START = 1, STOP = 2, FAULT = 3;
    private static final int CLOCK = Looms.CLOCK, DATA = Looms.DATA;
    private static final Checks C = new Checks("Terms 3");

    public static void main(String[] args) {
        beginnings();
        middleOfTheBeginning();
        placesOfBits();
        eachBit();
        endOfAFrame();
        nextBehindAByte();
        nextBehindAMiddleFault();
        nextBehindAnEndFault();
        ticksThatHaveNotCome();
        lastTickThatCanCome();
        changesOfTwoWires();
        starts();
        startAgain();
        stops();
        bitsLeftAtAStop();
        clockHasToRise();
        dataAtTheTickAhead();
        eightBits();
        behindAStop();
        noTickAhead();
        framesAtMost();
        bytesAtMost();
        faultIsTheLastMark();
        C.finish();
    }

    private static void beginnings() {
        C.sentence("a BEGINNING is a TICK s at which the WIRE is 0, and is 1 or has no SAMPLE at the one ahead"
                + " (ahead of TICK 0 it counts as 1)");
        TriggerLoom x = Looms.wave("0" + "10101010" + "1");
        C.due("a BEGINNING at TICK 0", x.frames(0, 1), 1);
        C.mark(x, 0, BYTE, 0x55, 0);
        x = Looms.wave("1" + "0" + "10101010" + "1");
        C.due("a BEGINNING at TICK 1", x.frames(0, 1), 1);
        C.mark(x, 0, BYTE, 0x55, 1);
        C.due("a WIRE that is never 0", Looms.wave("1".repeat(30)).frames(0, 1), 0);
        x = Looms.wave("1".repeat(30));
        C.due("a WIRE that is never 1 begins once", x.frames(15, 1), 1);
        C.mark(x, 0, FAULT, NONE, 9);
        C.due("no SAMPLES", Looms.wave("").frames(0, 1), 0);
    }

    private static void middleOfTheBeginning() {
        C.sentence("at s + k / 2 (cut) it has to be 0, else FAULT there");
        for (int width = 2; width <= 20; width++) {
            int middle = width / 2;
            TriggerLoom x = Looms.wave("1" + "0".repeat(middle) + "1");
            C.due("1 at the middle of WIDTH " + width, x.frames(0, width), 1);
            C.mark(x, 0, FAULT, NONE, 1 + middle);
            x = Looms.wave("1" + "0".repeat(middle + 1) + "1".repeat(10 * width));
            C.due("0 at the middle of WIDTH " + width, x.frames(0, width), 1);
            C.mark(x, 0, BYTE, 255, 1);
        }
        C.due("WIDTH 1: s itself is the middle", Looms.wave("0111111111").frames(0, 1), 1);
    }

    /** The WIRE is as is due at the TICKS that are looked at alone, and the other way about at all others. */
    private static void placesOfBits() {
        C.sentence("bit j (0 .. 7, the lowest first) is the WIRE at s + k (j + 1) + k / 2");
        for (int width = 1; width <= 20; width++) {
            for (char fill : new char[] {'0', '1'}) {
                char[] levels = String.valueOf(fill).repeat(10 * width - (width + 1) / 2 + 2).toCharArray();
                levels[0] = '1';
                levels[1] = '0';
                levels[1 + width / 2] = '0';
                for (int j = 0; j < 8; j++) {
                    levels[1 + width * (j + 1) + width / 2] = (char) ('0' + (0xA6 >> j & 1));
                }
                levels[levels.length - 1] = '1';
                TriggerLoom x = Looms.wave(new String(levels));
                C.due("WIDTH " + width + ", else " + fill, x.frames(0, width), 1);
                C.mark(x, 0, BYTE, 0xA6, 1);
            }
        }
    }

    private static void eachBit() {
        C.sentence("bit j (0 .. 7, the lowest first)");
        for (int j = 0; j < 8; j++) {
            StringBuilder bits = new StringBuilder("00000000");
            bits.setCharAt(j, '1');
            TriggerLoom x = Looms.wave("10" + bits + "1");
            x.frames(0, 1);
            C.mark(x, 0, BYTE, 1 << j, 1);
        }
        TriggerLoom x = Looms.wave("10" + "00000000" + "1");
        x.frames(0, 1);
        C.mark(x, 0, BYTE, 0, 1);
    }

    private static void endOfAFrame() {
        C.sentence("at s + 9 k + k / 2 it has to be 1, else FAULT there, else a BYTE (at s)");
        for (int width = 1; width <= 20; width++) {
            int end = 9 * width + width / 2;
            TriggerLoom x = Looms.loom("a");
            x.sample(0, end);
            x.sample(1, 1);
            C.due("1 at the end, WIDTH " + width, x.frames(0, width), 1);
            C.mark(x, 0, BYTE, 0, 0);
            x.arm();
            x.sample(0, end + 1);
            x.sample(1, 1);
            C.due("0 at the end, WIDTH " + width, x.frames(0, width), 1);
            C.mark(x, 0, FAULT, NONE, end);
        }
    }

    private static void nextBehindAByte() {
        C.sentence("The next BEGINNING is looked for behind the TICK that was looked at last.");
        TriggerLoom x = Looms.wave("0" + "10101010" + "1" + "0" + "01010101" + "1");
        C.due("at the TICK behind a BYTE", x.frames(0, 1), 2);
        C.mark(x, 0, BYTE, 0x55, 0);
        C.mark(x, 1, BYTE, 0xAA, 10);
        // WIDTH 4: TICK 38 is the last that is looked at; 39 and 40 would have been 1 still.
        x = Looms.wave("0".repeat(36) + "111" + "0".repeat(36) + "111");
        C.due("behind the middle of the last 1", x.frames(0, 4), 2);
        C.mark(x, 1, BYTE, 0, 39);
        x = Looms.wave("1" + "0" + "10101010" + "1" + "1".repeat(20) + "0" + "11111111" + "1");
        C.due("far behind", x.frames(0, 1), 2);
        C.mark(x, 1, BYTE, 255, 31);
    }

    private static void nextBehindAMiddleFault() {
        C.sentence("The next BEGINNING is looked for behind the TICK that was looked at last.");
        TriggerLoom x = Looms.wave("1001" + "0000" + "1111" + "0000".repeat(7) + "1111");
        C.due("at the TICK behind a FAULT", x.frames(0, 4), 2);
        C.mark(x, 0, FAULT, NONE, 3);
        C.mark(x, 1, BYTE, 1, 4);
        x = Looms.wave("10101111");
        C.due("what lies between is not looked at", x.frames(0, 6), 1);
        C.mark(x, 0, FAULT, NONE, 4);
    }

    private static void nextBehindAnEndFault() {
        C.sentence("The next BEGINNING is looked for behind the TICK that was looked at last.");
        TriggerLoom x = Looms.wave("1" + "0" + "11111111" + "0" + "1" + "0" + "00000000" + "1");
        C.due("0 where 1 has to be", x.frames(0, 1), 2);
        C.mark(x, 0, FAULT, NONE, 10);
        C.mark(x, 1, BYTE, 0, 12);
        x = Looms.wave("1" + "0" + "00000000" + "0" + "00000" + "1" + "0" + "11111111" + "1");
        C.due("0 behind 0 is no BEGINNING", x.frames(0, 1), 2);
        C.mark(x, 0, FAULT, NONE, 10);
        C.mark(x, 1, BYTE, 255, 17);
    }

    private static void ticksThatHaveNotCome() {
        C.sentence("What needs TICKS that have not come ends it.");
        TriggerLoom x = Looms.wave("1" + "0" + "11111111");
        C.due("the last TICK has not come", x.frames(0, 1), 0);
        x.sample(1, 1);
        C.due("it has come", x.frames(0, 1), 1);
        x.sample(0, 9);
        C.due("the next has not come", x.frames(0, 1), 1);
        C.due("the middle has not come", Looms.wave("10").frames(0, 2), 0);
        C.due("the middle has come, the end has not", Looms.wave("100").frames(0, 2), 0);
        C.due("a FAULT at the middle needs no more", Looms.wave("1001").frames(0, 4), 1);
        C.due("it is ended, whatever is behind", Looms.wave("10000101").frames(0, 2), 0);
    }

    private static void lastTickThatCanCome() {
        C.sentence("What needs TICKS that have not come ends it.");
        TriggerLoom x = Looms.withSamples(3809);
        x.sample(0, 20);
        x.sample(1, 171);
        C.due("all 4000", x.total(1), 4000);
        C.due("TICK 3999 is looked at", x.frames(0, 20), 1);
        C.mark(x, 0, BYTE, 255, 3809);
        x = Looms.withSamples(3810);
        x.sample(0, 20);
        x.sample(1, 170);
        C.due("all 4000", x.total(1), 4000);
        C.due("TICK 4000 would be looked at", x.frames(0, 20), 0);
        x = Looms.withSamples(3990);
        x.sendFrame(0, 1, 0x81);
        C.due("TICK 3999 is looked at, WIDTH 1", x.frames(0, 1), 1);
        C.mark(x, 0, BYTE, 0x81, 3990);
    }

    /** Each of the 16 changes of clock and data, with a START ahead and without. */
    private static void changesOfTwoWires() {
        C.sentence("clock 1 at both: data falls: START; data rises, behind a START: STOP");
        // From a START, clock and data come so without any MARK; 3: both are 1.
        String[] towards = {"0", "01", "", "013"};
        for (char was = '0'; was <= '3'; was++) {
            for (char is = '0'; is <= '3'; is++) {
                String change = "" + was + is;
                TriggerLoom x = Looms.two(change);
                boolean falls = change.equals("32");
                C.due(change + " without a START", x.bytes(CLOCK, DATA), falls ? 1 : 0);
                x = Looms.two("32" + towards[was - '0'] + is);
                boolean rises = change.equals("23");
                C.due(change + " behind a START", x.bytes(CLOCK, DATA), falls || rises ? 2 : 1);
                if (falls || rises) {
                    C.mark(x, 1, falls ? START : STOP, NONE, x.total(1) - 1);
                }
            }
        }
    }

    private static void starts() {
        C.sentence("data falls: START (bits from there on, none so far)");
        TriggerLoom x = Looms.two("32");
        C.due("the first TICK with one ahead", x.bytes(CLOCK, DATA), 1);
        C.mark(x, 0, START, NONE, 1);
        C.due("bits without a START", Looms.two("0" + "131".repeat(16)).bytes(CLOCK, DATA), 0);
        x = Looms.loom("a");
        Looms.comes(x, 1 << CLOCK | 1 << DATA, 3999);
        x.sample(1 << CLOCK, 1);
        C.due("the last TICK that can come", x.bytes(CLOCK, DATA), 1);
        C.mark(x, 0, START, NONE, 3999);
    }

    private static void startAgain() {
        C.sentence("START (bits from there on, none so far)");
        TriggerLoom x = Looms.two("32" + "131" + "32" + "020".repeat(8));
        C.due("bits ahead of a START do not count", x.bytes(CLOCK, DATA), 3);
        C.mark(x, 0, START, NONE, 1);
        C.mark(x, 1, START, NONE, 6);
        C.mark(x, 2, BYTE, 0, 30);
        x = Looms.two("32" + "131".repeat(7) + "32" + "3");
        C.due("none so far: no FAULT", x.bytes(CLOCK, DATA), 3);
        C.mark(x, 1, START, NONE, 24);
        C.mark(x, 2, STOP, NONE, 25);
    }

    private static void stops() {
        C.sentence("data rises, behind a START: STOP");
        TriggerLoom x = Looms.two("323");
        C.due("right behind a START", x.bytes(CLOCK, DATA), 2);
        C.mark(x, 0, START, NONE, 1);
        C.mark(x, 1, STOP, NONE, 2);
        C.due("without a START", Looms.two("23").bytes(CLOCK, DATA), 0);
        x = Looms.two("32");
        x.bytes(CLOCK, DATA);
        x.arm();
        Looms.twoCome(x, "23");
        C.due("a START that was read ahead of arm() is none", x.bytes(CLOCK, DATA), 0);
    }

    private static void bitsLeftAtAStop() {
        C.sentence("a FAULT ahead of it (both there), if bits are left that are no whole BYTE");
        for (int bits = 0; bits <= 17; bits++) {
            TriggerLoom x = Looms.two("32" + "020".repeat(bits) + "23");
            int whole = bits / 8;
            boolean left = bits % 8 != 0;
            int last = x.total(1) - 1;
            C.due("bits " + bits, x.bytes(CLOCK, DATA), 1 + whole + (left ? 2 : 1));
            if (left) {
                C.mark(x, 1 + whole, FAULT, NONE, last);
            }
            C.mark(x, x.total(4) - 1, STOP, NONE, last);
        }
    }

    private static void clockHasToRise() {
        C.sentence("clock falls, behind a START and a rise of clock behind that");
        TriggerLoom x = Looms.two("32" + "0" + "020".repeat(7) + "23");
        C.due("the fall of the START is no bit", x.bytes(CLOCK, DATA), 3);
        C.mark(x, 1, FAULT, NONE, x.total(1) - 1);
        x = Looms.two("32" + "131".repeat(4) + "32" + "0" + "020".repeat(7));
        C.due("a rise ahead of a second START", x.bytes(CLOCK, DATA), 2);
        Looms.twoCome(x, "20");
        C.due("a rise behind it", x.bytes(CLOCK, DATA), 3);
        C.mark(x, 2, BYTE, 0, x.total(1) - 1);
        x = Looms.two("032" + "0" + "020".repeat(7));
        C.due("a rise ahead of the START", x.bytes(CLOCK, DATA), 1);
    }

    private static void dataAtTheTickAhead() {
        C.sentence("data at the TICK ahead is a bit");
        TriggerLoom x = Looms.two("32" + "030".repeat(8));
        C.due("data 1 at the TICK ahead alone", x.bytes(CLOCK, DATA), 2);
        C.mark(x, 1, BYTE, 255, 25);
        x = Looms.two("32" + "121".repeat(8));
        C.due("data 0 at the TICK ahead alone", x.bytes(CLOCK, DATA), 2);
        C.mark(x, 1, BYTE, 0, 25);
    }

    private static void eightBits() {
        C.sentence("eight of them (the highest first) are a BYTE (at the last fall)");
        TriggerLoom x = Looms.two("32" + "131".repeat(3) + "020".repeat(4));
        C.due("seven bits", x.bytes(CLOCK, DATA), 1);
        Looms.twoCome(x, "2");
        C.due("clock has not fallen yet", x.bytes(CLOCK, DATA), 1);
        Looms.twoCome(x, "0");
        C.due("eight bits", x.bytes(CLOCK, DATA), 2);
        C.mark(x, 1, BYTE, 0xE0, 24);
        Looms.twoCome(x, "131".repeat(7));
        C.due("15 bits", x.bytes(CLOCK, DATA), 2);
        Looms.twoCome(x, "131");
        C.due("16 bits", x.bytes(CLOCK, DATA), 3);
        C.mark(x, 2, BYTE, 255, 48);
        for (int j = 0; j < 8; j++) {
            x = Looms.two("32" + "020".repeat(7 - j) + "131" + "020".repeat(j));
            x.bytes(CLOCK, DATA);
            C.mark(x, 1, BYTE, 1 << j, 25);
        }
    }

    private static void behindAStop() {
        C.sentence("Behind a STOP there is no START.");
        TriggerLoom x = Looms.two("323" + "131".repeat(8) + "1023");
        C.due("no bits, no STOP", x.bytes(CLOCK, DATA), 2);
        x = Looms.two("323" + "131".repeat(8) + "023" + "2" + "020".repeat(8) + "23");
        C.due("a START behind a STOP", x.bytes(CLOCK, DATA), 5);
        C.mark(x, 2, START, NONE, 30);
        C.mark(x, 3, BYTE, 0, 54);
        C.mark(x, 4, STOP, NONE, 56);
    }

    private static void noTickAhead() {
        C.sentence("at each TICK with one ahead");
        C.due("no SAMPLES", Looms.two("").bytes(CLOCK, DATA), 0);
        for (String one : new String[] {"0", "1", "2", "3"}) {
            C.due("one SAMPLE: " + one, Looms.two(one).bytes(CLOCK, DATA), 0);
        }
    }

    private static void framesAtMost() {
        C.sentence("MARKS: what is read so, in order (400 at most, then it ends)");
        TriggerLoom x = Looms.loom("a");
        for (int i = 0; i < 399; i++) {
            x.sendFrame(3, 1, i & 255);
        }
        C.due("399 FRAMES", x.frames(3, 1), 399);
        x.sendFrame(3, 1, 77);
        C.due("400 FRAMES", x.frames(3, 1), 400);
        C.mark(x, 398, BYTE, 398 & 255, 3980);
        C.mark(x, 399, BYTE, 77, 3990);
        // Width 2: each 0 with a 1 behind it is a FAULT, five of them a FRAME of 0x55.
        x = Looms.loom("a");
        for (int i = 0; i < 80; i++) {
            x.sendFrame(0, 1, 0x55);
        }
        C.due("400 FAULTS", x.frames(0, 2), 400);
        C.mark(x, 399, FAULT, NONE, 799);
        x.sample(0, 1);
        x.sample(1, 1);
        C.due("401 FAULTS", x.frames(0, 2), 400);
        C.mark(x, 0, FAULT, NONE, 1);
        C.mark(x, 399, FAULT, NONE, 799);
        C.mark(x, 400, UNKNOWN, UNKNOWN, UNKNOWN);
        C.due("total(4)", x.total(4), 400);
    }

    private static void bytesAtMost() {
        C.sentence("MARKS: what is read so, in order (400 at most, then it ends)");
        TriggerLoom x = Looms.loom("a");
        x.sample(1 << CLOCK | 1 << DATA, 1);
        // A FRAME of 0x55 changes DATA ten times.
        for (int i = 0; i < 39; i++) {
            x.sendFrame(DATA, 1, 0x55);
        }
        C.due("390 MARKS", x.bytes(CLOCK, DATA), 390);
        Looms.twoCome(x, "232323232");
        C.due("399 MARKS", x.bytes(CLOCK, DATA), 399);
        Looms.twoCome(x, "3");
        C.due("400 MARKS", x.bytes(CLOCK, DATA), 400);
        Looms.twoCome(x, "2");
        C.due("401 MARKS", x.bytes(CLOCK, DATA), 400);
        C.mark(x, 0, START, NONE, 1);
        C.mark(x, 398, START, NONE, 399);
        C.mark(x, 399, STOP, NONE, 400);
        C.mark(x, 400, UNKNOWN, UNKNOWN, UNKNOWN);
    }

    /** A FAULT and its STOP are two MARKS. */
    private static void faultIsTheLastMark() {
        C.sentence("400 at most, then it ends");
        for (int ahead = 397; ahead <= 399; ahead++) {
            TriggerLoom x = Looms.two("3");
            for (int i = 0; i < 39; i++) {
                x.sendFrame(DATA, 1, 0x55);
            }
            // An odd number of MARKS ends with a START, an even one is made so by one START more.
            Looms.twoCome(x, ahead == 398 ? "2323232" + "0132" : "2323232" + "32".repeat((ahead - 397) / 2));
            C.due("MARKS ahead", x.bytes(CLOCK, DATA), ahead);
            Looms.twoCome(x, "02023");
            C.due("MARKS", x.bytes(CLOCK, DATA), Math.min(ahead + 2, 400));
            C.mark(x, ahead, FAULT, NONE, x.total(1) - 1);
            C.mark(x, ahead + 1, ahead == 399 ? new int[] {UNKNOWN} : new int[] {STOP, NONE, x.total(1) - 1});
        }
    }
}
