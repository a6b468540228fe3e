import java.lang.reflect.Constructor;
import java.lang.reflect.Field;
import java.lang.reflect.Method;
import java.lang.reflect.Modifier;
import java.util.Arrays;
import java.util.TreeSet;

/** The public face is the document's, and there is no other member that can be seen. Promise 1, 24. */
public final class FaceTest {
    private static final String[] METHODS = {
        "arm()", "at(int)", "bytes(int,int)", "caught(int)", "cut()", "fault()", "feed(long)", "frames(int,int)",
        "grab(int,int,int)", "held(int)", "holds(int)", "mark(int,int)", "node(int,int,int)", "read()", "run(int,int)",
        "runs()", "sample(int,int)", "sendByte(int,int,int,boolean,boolean)", "sendFrame(int,int,int)",
        "squeezed(int)", "total(int)", "waits(int)", "when(int)"
    };
    private static final Checks C = new Checks("FaceTest");

    public static void main(String[] args) {
        face();
        newObject();
        totals();
        C.finish();
    }

    private static void face() {
        C.due("final", Modifier.isFinal(TriggerLoom.class.getModifiers()) ? 1 : 0, 1);
        TreeSet<String> seen = new TreeSet<>();
        for (Method m : TriggerLoom.class.getDeclaredMethods()) {
            if (!Modifier.isPrivate(m.getModifiers())) {
                seen.add(m.getName() + Arrays.toString(m.getParameterTypes()).replace("[", "(").replace("]", ")").replace(" ", ""));
                C.due(m + " is public, of the object, and answers an int",
                        m.getModifiers() == Modifier.PUBLIC && m.getReturnType() == int.class ? 1 : 0, 1);
            }
        }
        C.due("methods " + seen, seen.equals(new TreeSet<>(Arrays.asList(METHODS))) ? 1 : 0, 1);
        int constants = 0;
        for (Field f : TriggerLoom.class.getDeclaredFields()) {
            if (!Modifier.isPrivate(f.getModifiers())) {
                constants++;
            }
        }
        C.due("constants", constants, 6);
        Constructor<?>[] made = TriggerLoom.class.getDeclaredConstructors();
        C.due("constructors", made.length, 1);
        C.due("constructor's parameters", made[0].getParameterCount(), 0);
        C.due("UNKNOWN", TriggerLoom.UNKNOWN, -1);
        C.due("BAD", TriggerLoom.BAD, -2);
        C.due("STATE", TriggerLoom.STATE, -3);
        C.due("FULL", TriggerLoom.FULL, -4);
        C.due("NONE", TriggerLoom.NONE, -9);
        C.due("CAST", TriggerLoom.CAST, -13);
    }

    private static void newObject() {
        TriggerLoom x = new TriggerLoom();
        C.allDue("total of a new object", x::total, 0, 0, 0, 0, 0, 0);
        C.due("arm()", x.arm(), Checks.STATE);
        C.due("sample(0, 1)", x.sample(0, 1), Checks.STATE);
        C.due("sendFrame(0, 1, 0)", x.sendFrame(0, 1, 0), Checks.STATE);
        C.due("sendByte(0, 1, 0, true, true)", x.sendByte(0, 1, 0, true, true), Checks.STATE);
        C.due("node(0, 8, 0)", x.node(0, 8, 0), Checks.UNKNOWN);
        C.due("holds(0)", x.holds(0), Checks.UNKNOWN);
        C.due("waits(0)", x.waits(0), Checks.UNKNOWN);
        C.due("held(0)", x.held(0), Checks.UNKNOWN);
        C.due("at(0)", x.at(0), Checks.UNKNOWN);
        C.due("when(0)", x.when(0), Checks.NONE);
        C.due("grab(0, 0, 0)", x.grab(0, 0, 0), Checks.UNKNOWN);
        C.due("caught(0)", x.caught(0), Checks.NONE);
        C.due("runs()", x.runs(), 0);
        C.due("frames(0, 1)", x.frames(0, 1), 0);
        C.due("bytes(0, 1)", x.bytes(0, 1), 0);
        C.due("fault()", x.fault(), 0);
        C.due("cut()", x.cut(), 0);
    }

    private static void totals() {
        TriggerLoom x = Checks.loom("!a&b");
        Checks.feed(x, "abc");
        x.sample(2, 5);
        x.sample(3, 4);
        x.grab(4, 2, 2);
        x.frames(0, 1);
        C.allDue("total", x::total, 4, 9, 5, 5, 0, 3);
        x.sendFrame(0, 1, 255);
        x.frames(0, 1);
        C.allDue("total behind a FRAME", x::total, 4, 19, 6, 5, 1, 3);
        C.due("total(-1)", x.total(-1), Checks.BAD);
        C.due("total(6)", x.total(6), Checks.BAD);
        C.due("total(MIN)", x.total(Integer.MIN_VALUE), Checks.BAD);
        C.due("total(MAX)", x.total(Integer.MAX_VALUE), Checks.BAD);
    }
}
