/** Terms 4: the refusals, which of several is told, and that none of them changes anything. */
public final class Terms4Test {
    private static final int UNKNOWN = Checks.UNKNOWN, BAD = Checks.BAD, STATE = Checks.STATE, FULL = Checks.FULL;
    private static final int CAST = Checks.CAST;
    private static final Checks C = new Checks("Terms 4");

    public static void main(String[] args) {
        constants();
        unknownIsToldFirst();
        badIsToldNext();
        stateAheadOfFull();
        manyRefusalsInARow();
        C.finish();
    }

    private static void constants() {
        C.sentence("REFUSALS: UNKNOWN -1, BAD -2, STATE -3, FULL -4; CAST -13: a NODE of another KIND. NONE is -9.");
        C.due("UNKNOWN", TriggerLoom.UNKNOWN, -1);
        C.due("BAD", TriggerLoom.BAD, -2);
        C.due("STATE", TriggerLoom.STATE, -3);
        C.due("FULL", TriggerLoom.FULL, -4);
        C.due("NONE", TriggerLoom.NONE, -9);
        C.due("CAST", TriggerLoom.CAST, -13);
    }

    private static void unknownIsToldFirst() {
        C.sentence("Of several what is told first: UNKNOWN ahead of all others");
        C.refused(Looms::busy, "node(4, 9, 5)", x -> x.node(4, 9, 5), UNKNOWN);
        C.refused(Looms::busy, "grab(1, 501, -1)", x -> x.grab(1, 501, -1), UNKNOWN);
        C.refused(Looms::busy, "run(3, 2)", x -> x.run(3, 2), UNKNOWN);
        C.refused(Looms::busy, "frames(16, 0)", x -> x.frames(16, 0), UNKNOWN);
        C.refused(Looms::busy, "bytes(16, 16)", x -> x.bytes(16, 16), UNKNOWN);
        C.refused(Looms::busy, "bytes(-1, -1)", x -> x.bytes(-1, -1), UNKNOWN);
        C.refused(Looms::busy, "mark(1, 3)", x -> x.mark(1, 3), UNKNOWN);
        C.refused(Looms::idle, "sendFrame(16, 21, 256)", x -> x.sendFrame(16, 21, 256), UNKNOWN);
        C.refused(Looms::idle, "sendByte(16, 16, 256, ..)", x -> x.sendByte(16, 16, 256, true, true), UNKNOWN);
        C.refused(() -> Looms.withSamples(4000), "sendFrame(-1, 1, 0)", x -> x.sendFrame(-1, 1, 0), UNKNOWN);
        C.refused(() -> Looms.withSamples(4000), "sendByte(0, 16, 0, ..)", x -> x.sendByte(0, 16, 0, true, true), UNKNOWN);
    }

    private static void badIsToldNext() {
        C.sentence("Of several what is told first: BAD ahead of STATE, FULL, CAST");
        C.refused(Looms::busy, "node(0, 7, 5)", x -> x.node(0, 7, 5), BAD);
        C.refused(Looms::busy, "node(0, 9, 0)", x -> x.node(0, 9, 0), BAD);
        C.refused(Looms::idle, "sample(65536, 1)", x -> x.sample(65536, 1), BAD);
        C.refused(Looms::idle, "sample(0, 1001)", x -> x.sample(0, 1001), BAD);
        C.refused(Looms::idle, "sendFrame(0, 21, 0)", x -> x.sendFrame(0, 21, 0), BAD);
        C.refused(Looms::idle, "sendFrame(0, 1, 256)", x -> x.sendFrame(0, 1, 256), BAD);
        C.refused(Looms::idle, "sendByte(1, 1, 0, ..)", x -> x.sendByte(1, 1, 0, true, true), BAD);
        C.refused(Looms::idle, "sendByte(0, 1, 256, ..)", x -> x.sendByte(0, 1, 256, true, true), BAD);
        C.refused(() -> Looms.withSamples(4000), "sample(0, 1001)", x -> x.sample(0, 1001), BAD);
        C.refused(() -> Looms.withSamples(4000), "sample(-1, 1)", x -> x.sample(-1, 1), BAD);
        C.refused(() -> Looms.withSamples(4000), "sendFrame(0, 0, 0)", x -> x.sendFrame(0, 0, 0), BAD);
        C.refused(() -> Looms.withSamples(4000), "sendByte(0, 1, -1, ..)", x -> x.sendByte(0, 1, -1, true, true), BAD);
    }

    private static void stateAheadOfFull() {
        C.sentence("Of several what is told first: STATE");
        TriggerLoom x = new TriggerLoom();
        for (int i = 0; i < 5; i++) {
            C.due("1000 SAMPLES without a TRIGGER", x.sample(0, 1000), STATE);
        }
        C.due("200 SAMPLES without a TRIGGER", x.sendFrame(0, 20, 0), STATE);
        C.due("total(1)", x.total(1), 0);
    }

    private static void manyRefusalsInARow() {
        C.sentence("What is refused changes nothing.");
        C.refused(Looms::busy, "each call that can be refused", Terms4Test::refuseAll, 1);
        C.refused(Looms::idle, "each call that can be refused", Terms4Test::refuseAll, 1);
        C.refused(() -> Looms.withSamples(4000), "each call that can be refused", Terms4Test::refuseAll, 1);
    }

    /** 1: each answer is a refusal. */
    private static int refuseAll(TriggerLoom x) {
        boolean all = x.node(-1, 8, 0) == UNKNOWN & x.holds(60) == UNKNOWN & x.waits(60) == UNKNOWN;
        all &= x.total(0) == 0 || x.node(0, 7, 0) == CAST;
        all &= x.sample(-1, 1) == BAD & x.sample(0, 0) == BAD;
        all &= x.held(4000) == UNKNOWN & x.at(4000) == UNKNOWN & x.grab(4000, 0, 0) == UNKNOWN;
        all &= x.total(2) == 0 || x.grab(0, 501, 0) == BAD;
        all &= x.run(4000, 0) == UNKNOWN & x.squeezed(65536) == BAD & x.total(6) == BAD;
        all &= x.frames(16, 1) == UNKNOWN & x.frames(0, 21) == BAD & x.bytes(0, 16) == UNKNOWN & x.bytes(0, 0) == BAD;
        all &= x.mark(400, 0) == UNKNOWN;
        all &= x.sendFrame(0, 1, 256) == BAD & x.sendByte(0, 0, 0, true, true) == BAD;
        all &= x.total(0) != 0 || x.arm() == STATE & x.sample(0, 1) == STATE;
        all &= x.total(1) < 4000 || x.sample(0, 1) == FULL & x.sendFrame(0, 1, 0) == FULL;
        return all ? 1 : 0;
    }
}
