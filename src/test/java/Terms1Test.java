/** Terms 1: WIRES, SAMPLES, THE TAPE, THE TEXT, FAULTS, NODES. */
public final class Terms1Test {
    private static final int SYNTAX = 1, SPAN = 2, NONE = Checks.NONE;
    // One of each kind of TOKEN, what is none, and the end ($).
    private static final String ALL_TOKENS = "a3;:,/&*!+-~()0?$";
    private static final Checks C = new Checks("Terms 1");

    public static void main(String[] args) {
        wires();
        ticks();
        tapeHoldsSixty();
        everyByte();
        numbersFromOneTo999();
        numbersAsLongAsCanBe();
        blanks();
        row();
        bindings();
        whatCanStandWhere();
        places();
        faultIsTheFirst();
        notAToken();
        tenWithinOneAnother();
        elevenWithinOneAnother();
        tooDeepBehindSemicolon();
        oneBesideAnotherIsNotWithin();
        spanBelowTheFirst();
        spanOnlyWithoutSyntax();
        nodesAsTheyAreMade();
        nodesAtMost();
        kinds();
        C.finish();
    }

    private static void wires() {
        C.sentence("WIRES are a .. p, bits 0 .. 15 of a SAMPLE (0 .. 65535).");
        for (int wire = 0; wire < 16; wire++) {
            TriggerLoom x = Looms.loom(String.valueOf((char) ('a' + wire)));
            C.due("the WIRE " + wire, x.node(0, 0, 1), wire);
            C.due("its bit alone, WIRE " + wire, x.sample(1 << wire, 1), 1);
            C.due("all other bits, WIRE " + wire, x.sample(65535 ^ 1 << wire, 1), 0);
        }
        C.faults("`", 0, SYNTAX);
        C.faults("q", 0, SYNTAX);
        C.faults("A", 0, SYNTAX);
        C.faults("P", 0, SYNTAX);
        TriggerLoom x = Looms.loom("p");
        C.due("the least SAMPLE", x.sample(0, 1), 0);
        C.due("the greatest SAMPLE", x.sample(65535, 1), 1);
        C.due("at(0)", x.at(0), 0);
        C.due("at(1)", x.at(1), 65535);
        C.due("below the least", x.sample(-1, 1), Checks.BAD);
        C.due("above the greatest", x.sample(65536, 1), Checks.BAD);
    }

    private static void ticks() {
        C.sentence("SAMPLES come at TICKS 0, 1, .. (4000 at most, all are kept), anew from arm().");
        TriggerLoom x = Looms.loom("a");
        for (int i = 0; i < 400; i++) {
            x.sample(i, 10);
        }
        C.due("all have come", x.total(1), 4000);
        for (int tick = 0; tick < 4000; tick += 57) {
            C.due("at(" + tick + ")", x.at(tick), tick / 10);
        }
        C.due("at the last", x.at(3999), 399);
        C.due("one more", x.sample(0, 1), Checks.FULL);
        C.due("arm()", x.arm(), 4000);
        C.due("at(0) of none", x.at(0), Checks.UNKNOWN);
        x.sample(7, 1);
        C.due("at(0) anew", x.at(0), 7);
        C.due("at(1), that has not come anew", x.at(1), Checks.UNKNOWN);
    }

    private static void tapeHoldsSixty() {
        C.sentence("THE TAPE has bytes, 60 at most.");
        C.reads("a" + " ".repeat(59), 1);
        TriggerLoom x = new TriggerLoom();
        C.due("60 bytes", Looms.feed(x, "a" + " ".repeat(59)), 60);
        C.due("byte 61", x.feed(Looms.word("b")), Checks.FULL);
        C.due("read", x.read(), 1);
        C.due("60 bytes, all of them 255", Looms.feed(x, "\u00ff".repeat(60)), 60);
        C.due("cut", x.cut(), 60);
    }

    private static void everyByte() {
        C.sentence("TOKENS: NUMBERS (1 to 3 digits, 1 .. 999; as long as can be), a .. p, signs ; : , / & * ! + - ~ ( ).");
        for (char b = 1; b <= 255; b++) {
            if (b >= 'a' && b <= 'p') {
                C.reads(String.valueOf(b), 1);
            } else {
                C.faults(String.valueOf(b), "123456789!( ".indexOf(b) >= 0 ? 1 : 0, SYNTAX);
            }
            if ("+-~ ".indexOf(b) >= 0) {
                C.reads("a" + b, 1);
            } else {
                C.faults("a" + b, ";/&".indexOf(b) >= 0 ? 2 : 1, SYNTAX);
            }
        }
    }

    private static void numbersFromOneTo999() {
        C.sentence("NUMBERS (1 to 3 digits, 1 .. 999; as long as can be)");
        for (int n = 1; n <= 999; n++) {
            TriggerLoom x = Looms.loom(n + "*a");
            C.due("NUMBER " + n, x.node(1, 5, 3), n);
        }
        C.due("three digits of a small NUMBER", Looms.loom("001*a").node(1, 5, 3), 1);
        C.due("two digits of a small NUMBER", Looms.loom("09*a").node(1, 5, 3), 9);
        for (String none : new String[] {"0", "00", "000", "0000", "0001", "0999", "1000", "1001", "9999", "65536"}) {
            C.faults(none + "*a", 0, SYNTAX);
            C.faults("a;" + none + "*b", 2, SYNTAX);
            C.faults("a;" + none + ",5:b", 2, SYNTAX);
            C.faults("a;5," + none + ":b", 4, SYNTAX);
        }
        // As an int and as a long, each of these would come round to 1.
        C.faults("4294967297*a", 0, SYNTAX);
        C.faults("18446744073709551617*a", 0, SYNTAX);
        C.faults("9".repeat(60), 0, SYNTAX);
        C.faults("0".repeat(60), 0, SYNTAX);
    }

    private static void numbersAsLongAsCanBe() {
        C.sentence("as long as can be");
        TriggerLoom x = Looms.loom("a;12,345:b");
        C.node(x, 2, 7, 0, 1, 12, 345);
        C.faults("12 3*a", 3, SYNTAX);
        C.faults("a;12 3,4:b", 5, SYNTAX);
        C.faults("a;1,23 4:b", 7, SYNTAX);
    }

    private static void blanks() {
        C.sentence("Blanks (32) may stand between.");
        C.reads(" 3 * ( ! a + ; 2 , 4 : b / c & d ~ ) ", 9);
        C.reads("3*(!a+;2,4:b/c&d~)", 9);
        C.reads("   a   &   b   ", 3);
        C.reads(" ".repeat(59) + "a", 1);
        for (char none : new char[] {9, 10, 13, 31, 33, 160}) {
            C.faults("a" + none, 1, SYNTAX);
            C.faults("a" + none + "&b", 1, SYNTAX);
        }
    }

    private static void row() {
        C.sentence("ROW: EITHER, or ROW ; EITHER, or ROW ; NUMBER , NUMBER : EITHER.");
        C.reads("a", 1);
        C.reads("a;b", 3);
        C.reads("a;b;c", 5);
        C.reads("a;3*b", 4);
        C.reads("a;3,5:b", 3);
        C.reads("a;3,5:3*b", 4);
        C.reads("a;3,5:b;c;1,1:d", 7);
        C.reads("(a;b)&(c;d)", 7);
        C.sentence("THE TEXT: a ROW.");
        C.faults("", 0, SYNTAX);
        C.faults("a;", 2, SYNTAX);
        C.faults("a b", 2, SYNTAX);
        C.faults("a)", 1, SYNTAX);
        C.faults("(a", 2, SYNTAX);
        C.faults("3,5:a", 1, SYNTAX);
    }

    private static void bindings() {
        C.sentence("EITHER: BOTH, or EITHER / BOTH. BOTH: ONE, or BOTH & ONE.");
        TriggerLoom x = Looms.loom("a/b&c;d&e/f");
        C.node(x, 3, 3, 1, 2, NONE, NONE);
        C.node(x, 4, 4, 0, 3, NONE, NONE);
        C.node(x, 7, 3, 5, 6, NONE, NONE);
        C.node(x, 9, 4, 7, 8, NONE, NONE);
        C.node(x, 10, 6, 4, 9, NONE, NONE);
        C.node(Looms.loom("a/b/c"), 4, 4, 2, 3, NONE, NONE);
        C.node(Looms.loom("a&b&c"), 4, 3, 2, 3, NONE, NONE);
        C.node(Looms.loom("a;b;c"), 4, 6, 2, 3, NONE, NONE);
        C.node(Looms.loom("a;1,2:b/c"), 4, 7, 0, 3, 1, 2);
        C.sentence("ONE: WIRE, or WIRE + , WIRE - , WIRE ~ , or NUMBER * ONE, or ! ONE, or ( ROW ).");
        x = Looms.loom("2*!a-&b");
        C.node(x, 0, 1, 0, 1, NONE, NONE);
        C.node(x, 1, 2, 0, NONE, NONE, NONE);
        C.node(x, 2, 5, 1, NONE, 2, NONE);
        C.node(x, 4, 3, 2, 3, NONE, NONE);
        C.node(Looms.loom("!3*a"), 2, 2, 1, NONE, NONE, NONE);
        C.node(Looms.loom("a&(b;c)"), 4, 3, 0, 3, NONE, NONE);
        C.node(Looms.loom("a&(b/c)"), 4, 3, 0, 3, NONE, NONE);
        C.reads("((a))", 1);
        C.reads("!!a", 3);
    }

    /** Behind each beginning of a text, each TOKEN: the ones that cannot stand there are FAULTS there. */
    private static void whatCanStandWhere() {
        C.sentence("SYNTAX: the first TOKEN that cannot stand there, or is none");
        String one = "a3!(";
        for (String begun : new String[] {"", "!", "(", "3*", "a/", "a&", "a;3,4:", "(a;", "a;3*", "a;b&", "a;3,4:b/", "a;"}) {
            canStand(begun, one);
        }
        for (String begun : new String[] {"a", "3*a", "!a", "a/b", "a&b", "a;b", "a;3,4:b", "(a)&b"}) {
            canStand(begun, ";/&+-~$");
        }
        for (String begun : new String[] {"a+", "a-", "a~", "3*a+", "(a)", "!(a)", "a;(b)", "(a+)", "((a))"}) {
            canStand(begun, ";/&$");
        }
        for (String begun : new String[] {"(a", "(a;b", "!(a", "((a)&b"}) {
            canStand(begun, ";/&+-~)");
        }
        for (String begun : new String[] {"(a+", "((a)", "(a;(b)"}) {
            canStand(begun, ";/&)");
        }
        for (String begun : new String[] {"3", "!3", "(3", "3*3", "a&3", "a/3", "a;b/3", "a;3,4:3", "a;b&3"}) {
            canStand(begun, "*");
        }
        canStand("a;3", "*,");
        canStand("(a;3", "*,");
        canStand("a;3,", "3");
        canStand("a;3,4", ":");
    }

    private static void canStand(String begun, String allowed) {
        for (char token : ALL_TOKENS.toCharArray()) {
            boolean end = token == '$';
            String text = end ? begun : begun + " " + token;
            int place = end ? begun.length() : begun.length() + 1;
            TriggerLoom x = new TriggerLoom();
            Looms.feed(x, text);
            int answer = x.read();
            if (allowed.indexOf(token) < 0) {
                C.due("read of '" + text + "'", answer, -100 - place);
                C.due("fault of '" + text + "'", x.fault(), SYNTAX);
            } else {
                boolean isWhole = answer > 0;
                boolean lacksMore = answer == -100 - text.length();
                C.due("'" + token + "' can stand in '" + text + "', read " + answer, isWhole || lacksMore && !end ? 1 : 0, 1);
            }
        }
    }

    private static void places() {
        C.sentence("FAULTS, at a PLACE (a byte; the end: how many bytes)");
        C.faults("?a", 0, SYNTAX);
        C.faults("a" + " ".repeat(58) + "?", 59, SYNTAX);
        C.faults("a" + " ".repeat(57) + "?", 58, SYNTAX);
        C.faults("a;" + " ".repeat(58), 60, SYNTAX);
        C.faults("a;" + " ".repeat(57), 59, SYNTAX);
        C.faults(" ".repeat(60), 60, SYNTAX);
        C.faults(" ".repeat(54) + "a;9,8:", 60, SYNTAX);
        C.faults(" ".repeat(53) + "a;9,8:b", 57, SPAN);
        C.faults(" 12345*a", 1, SYNTAX);
    }

    private static void faultIsTheFirst() {
        C.sentence("the first TOKEN that cannot stand there, or is none");
        C.faults("a;;?", 2, SYNTAX);
        C.faults("a?;;", 1, SYNTAX);
        C.faults("!!!!!!!!!!!?", 10, SYNTAX);
        C.faults("a&0&!!!!!!!!!!!b", 2, SYNTAX);
        C.faults("a;3?*b", 3, SYNTAX);
    }

    private static void notAToken() {
        C.sentence("or is none (also a NUMBER that is 0 or too long)");
        C.faults("a;b&0", 4, SYNTAX);
        C.faults("a 0", 2, SYNTAX);
        C.faults("(0", 1, SYNTAX);
        C.faults("3*1000*a", 2, SYNTAX);
        C.faults("3*999*0*a", 6, SYNTAX);
        C.reads("3*999*1*a", 4);
    }

    private static void tenWithinOneAnother() {
        C.sentence("NUMBERS before *, !, ( lie at most 10 within one another");
        C.reads("!!!!!!!!!!a", 11);
        C.reads("((((((((((a))))))))))", 1);
        C.reads("2*2*2*2*2*2*2*2*2*2*a", 11);
        C.reads("!(2*!(2*!(2*(a))))", 7);
        C.reads("((((((((((a;1,2:b;c/d&e))))))))))", 9);
        C.reads("(((((!!!!!a)))))", 6);
    }

    private static void elevenWithinOneAnother() {
        C.sentence("or begins ONE too deep");
        C.faults("!!!!!!!!!!!a", 10, SYNTAX);
        C.faults("(((((((((((a)))))))))))", 10, SYNTAX);
        C.faults("2*2*2*2*2*2*2*2*2*2*2*a", 20, SYNTAX);
        C.faults("!(2*!(2*!(2*(!a))))", 13, SYNTAX);
        C.faults("!(2*!(2*!(2*((a)))))", 13, SYNTAX);
        C.faults("!(2*!(2*!(2*( 3 *a))))", 14, SYNTAX);
        C.faults("((((((((((a&!b))))))))))", 12, SYNTAX);
        C.faults("((((((((((a/(b)))))))))))", 12, SYNTAX);
        C.faults("(".repeat(60), 10, SYNTAX);
        C.faults("!".repeat(60), 10, SYNTAX);
    }

    private static void tooDeepBehindSemicolon() {
        C.sentence("begins ONE too deep (NUMBERS before *");
        C.reads("(((((((((a;3*b)))))))))", 4);
        C.faults("((((((((((a;3*b))))))))))", 12, SYNTAX);
        C.reads("((((((((((a;3,4:b))))))))))", 3);
        C.faults("((((((((((a;3,4:!b))))))))))", 16, SYNTAX);
        C.faults("((((((((((a;3,4:5*b))))))))))", 16, SYNTAX);
        C.faults("((((((((((a;!b))))))))))", 12, SYNTAX);
        C.faults("((((((((((a;3)", 13, SYNTAX);
    }

    private static void oneBesideAnotherIsNotWithin() {
        C.sentence("within one another");
        C.reads("!!!!!!!!!!a&!!!!!!!!!!b", 23);
        C.reads("((((((((((a))))))))))/((((((((((b))))))))))", 3);
        C.reads("(((((!!!!!a)))))&!(((((((((a;1,2:b)))))))))", 11);
        C.faults("((((((((((a))))))))))&!!!!!!!!!!!b", 32, SYNTAX);
        C.reads("(!!!!!!!!!a;!!!!!!!!!b)", 21);
        C.faults("(!!!!!!!!!a;!!!!!!!!!!b)", 21, SYNTAX);
    }

    private static void spanBelowTheFirst() {
        C.sentence("2 SPAN: the first second NUMBER that is below the first");
        C.reads("a;5,5:b", 3);
        C.reads("a;5,6:b", 3);
        C.faults("a;5,4:b", 4, SPAN);
        C.reads("a;1,1:b", 3);
        C.reads("a;1,999:b", 3);
        C.reads("a;999,999:b", 3);
        C.faults("a;999,998:b", 6, SPAN);
        C.faults("a;2,1:b", 4, SPAN);
        C.faults("a; 12 , 3 : b", 8, SPAN);
        C.faults("a;1,2:b;9,8:c;7,6:d", 10, SPAN);
        C.faults("(a;9,8:b);1,1:(c;7,6:d)", 5, SPAN);
        C.faults("a;1,2:(b;9,8:c)", 11, SPAN);
        C.faults("a;9,8:(b;7,6:c)", 4, SPAN);
    }

    private static void spanOnlyWithoutSyntax() {
        C.sentence("only if there is none, 2 SPAN");
        C.faults("a;5,4:b;", 8, SYNTAX);
        C.faults("a;5,4", 5, SYNTAX);
        C.faults("a;5,4:", 6, SYNTAX);
        C.faults("a;5,4:b?", 7, SYNTAX);
        C.faults("a;5,4:b;1000*a", 8, SYNTAX);
        C.faults("a;5,4:!!!!!!!!!!!b", 16, SYNTAX);
        C.faults("a;5,0:b", 4, SYNTAX);
    }

    private static void nodesAsTheyAreMade() {
        C.sentence("NODES are numbered as they are made: each when all of it is there (so the last one is all of THE TEXT).");
        TriggerLoom x = Looms.loom("c;3,40:!(b-/p~)&5*a");
        C.node(x, 0, 0, 2, NONE, NONE, NONE);
        C.node(x, 1, 1, 1, 1, NONE, NONE);
        C.node(x, 2, 1, 15, 2, NONE, NONE);
        C.node(x, 3, 4, 1, 2, NONE, NONE);
        C.node(x, 4, 2, 3, NONE, NONE, NONE);
        C.node(x, 5, 0, 0, NONE, NONE, NONE);
        C.node(x, 6, 5, 5, NONE, 5, NONE);
        C.node(x, 7, 3, 4, 6, NONE, NONE);
        C.node(x, 8, 7, 0, 7, 3, 40);
        C.due("no NODE behind the last", x.node(9, 8, 0), Checks.UNKNOWN);
        x = Looms.loom("a;b;1,2:c");
        C.node(x, 2, 6, 0, 1, NONE, NONE);
        C.node(x, 4, 7, 2, 3, 1, 2);
        C.node(Looms.loom("a/b&c"), 4, 4, 0, 3, NONE, NONE);
        C.node(Looms.loom("a;(b;c)"), 4, 6, 0, 3, NONE, NONE);
    }

    /** Of 60 bytes no more than 60 NODES can be made. */
    private static void nodesAtMost() {
        C.sentence("THE TAPE has bytes, 60 at most: NODES are numbered as they are made");
        String pairs = "a" + "&a".repeat(29);
        C.reads(pairs, 59);
        C.reads("!" + pairs, 60);
        TriggerLoom x = Looms.loom("!" + pairs);
        C.node(x, 59, 3, 57, 58, NONE, NONE);
        C.due("no NODE 60", x.node(60, 8, 0), Checks.UNKNOWN);
        C.due("it HOLDS not", x.sample(0, 1), 0);
        C.due("holds(1)", x.holds(1), 1);
        C.due("holds(59)", x.holds(59), 0);
        C.due("waits(59)", x.waits(59), NONE);
        C.reads("!a" + ";a".repeat(29), 60);
        C.reads("a" + "/b".repeat(28) + "&!a", 60);
    }

    private static void kinds() {
        C.sentence("KINDS: 0 LEVEL (a WIRE), 1 EDGE (a WIRE, +: 0, -: 1, ~: 2): a LEVEL, too; 2 NOT, 3 BOTH, 4 EITHER;"
                + " 5 COUNTED (NUMBER); 6 ARMED (;); 7 TIMED (; with NUMBERS): ARMED, too.");
        C.node(Looms.loom("a"), 0, 0, 0, NONE, NONE, NONE);
        C.node(Looms.loom("p+"), 0, 1, 15, 0, NONE, NONE);
        C.node(Looms.loom("p-"), 0, 1, 15, 1, NONE, NONE);
        C.node(Looms.loom("p~"), 0, 1, 15, 2, NONE, NONE);
        C.node(Looms.loom("!a"), 1, 2, 0, NONE, NONE, NONE);
        C.node(Looms.loom("a&b"), 2, 3, 0, 1, NONE, NONE);
        C.node(Looms.loom("a/b"), 2, 4, 0, 1, NONE, NONE);
        C.node(Looms.loom("1*a"), 1, 5, 0, NONE, 1, NONE);
        C.node(Looms.loom("999*a"), 1, 5, 0, NONE, 999, NONE);
        C.node(Looms.loom("a;b"), 2, 6, 0, 1, NONE, NONE);
        C.node(Looms.loom("a;1,999:b"), 2, 7, 0, 1, 1, 999);
        C.due("an EDGE is a LEVEL", Looms.loom("p+").node(0, 0, 0), 1);
        C.due("a LEVEL is no EDGE", Looms.loom("p").node(0, 1, 0), Checks.CAST);
        C.due("a TIMED is an ARMED", Looms.loom("a;1,1:b").node(2, 6, 0), 7);
        C.due("an ARMED is no TIMED", Looms.loom("a;b").node(2, 7, 0), Checks.CAST);
    }
}
