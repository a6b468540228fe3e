import java.lang.reflect.Constructor;
import java.lang.reflect.Field;
import java.lang.reflect.Method;
import java.lang.reflect.Modifier;
import java.util.Arrays;
import java.util.TreeSet;

/** The public face is the document's, and there is no other member that can be seen. */
public final class FaceTest {
    private static final String[] METHODS = {
        "arm()", "at(int)", "bytes(int,int)", "caught(int)", "cut()", "fault()", "feed(long)", "frames(int,int)",
        "grab(int,int,int)", "held(int)", "holds(int)", "mark(int,int)", "node(int,int,int)", "read()", "run(int,int)",
        "runs()", "sample(int,int)", "sendByte(int,int,int,boolean,boolean)", "sendFrame(int,int,int)",
        "squeezed(int)", "total(int)", "waits(int)", "when(int)"
    };
    private static final Checks C = new Checks("FaceTest");

    public static void main(String[] args) {
        face();
        C.finish();
    }

    private static void face() {
        C.sentence("The public face");
        C.due("final", Modifier.isFinal(TriggerLoom.class.getModifiers()) ? 1 : 0, 1);
        TreeSet<String> seen = new TreeSet<>();
        for (Method m : TriggerLoom.class.getDeclaredMethods()) {
            if (!Modifier.isPrivate(m.getModifiers())) {
                seen.add(m.getName() + Arrays.toString(m.getParameterTypes()).replace("[", "(").replace("]", ")").replace(" ", ""));
                C.due(m + " is public, of the object, and answers an int",
                        m.getModifiers() == Modifier.PUBLIC && m.getReturnType() == int.class ? 1 : 0, 1);
            }
        }
        C.due("methods " + seen, seen.equals(new TreeSet<>(Arrays.asList(METHODS))) ? 1 : 0, 1);
        int constants = 0;
        for (Field f : TriggerLoom.class.getDeclaredFields()) {
            if (!Modifier.isPrivate(f.getModifiers())) {
                constants++;
            }
        }
        C.due("constants", constants, 6);
        Constructor<?>[] made = TriggerLoom.class.getDeclaredConstructors();
        C.due("constructors", made.length, 1);
        C.due("constructor's parameters", made[0].getParameterCount(), 0);
    }
}
