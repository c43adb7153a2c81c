import java.lang.reflect.Constructor;
import java.lang.reflect.Field;
import java.lang.reflect.Member;
import java.lang.reflect.Method;
import java.lang.reflect.Modifier;
import java.util.Set;
import java.util.TreeSet;

/** The class shows the document's face and nothing else. */
public final class FaceTest {
    private static final String[] METHODS = {
        "int instr(int,int,int)", "int handler(int,int)", "int start(int,int,int)", "int run(int)",
        "int request(int,int,int,int,int)", "int clear(int)", "int suspend(int)", "int resume(int)",
        "int event(int)", "int next()", "int frame(int,int,int)", "long local(int,int,int)",
        "int setInt(int,int,int,int)", "int setReference(int,int,int,int)", "long field(int,int)",
        "int pin(int,boolean)", "int collect()", "int pop(int,int)", "int force(int,int)",
        "int raise(int,int)", "long result(int)", "int thread(int,int)", "int count(int)",
    };
    private static final String[] CONSTANTS = {
        "int REFUSED", "long REFERENCE", "long NO_ID", "long GONE", "long NONE",
    };

    public static void main(String[] args) {
        Check check = new Check("FaceTest");
        check.part("face");
        Class<?> face = DebugBackEnd.class;
        check.due("public and final", face.getModifiers() & (Modifier.PUBLIC | Modifier.FINAL),
            Modifier.PUBLIC | Modifier.FINAL);
        compare(check, "methods", METHODS, shownMethods(face));
        compare(check, "constants", CONSTANTS, shownFields(face));
        int constructors = 0;
        for (Constructor<?> c : face.getDeclaredConstructors()) {
            constructors += isHidden(c) ? 0 : 1;
            check.due("constructor's parameters", c.getParameterCount(), 0);
        }
        check.due("constructors", constructors, 1);
        check.due("REFUSED", DebugBackEnd.REFUSED, -1000000000L);
        check.due("REFERENCE", DebugBackEnd.REFERENCE, 10000000000L);
        check.due("NO_ID", DebugBackEnd.NO_ID, 20000000000L);
        check.due("GONE", DebugBackEnd.GONE, 20000000001L);
        check.due("NONE", DebugBackEnd.NONE, 20000000002L);
        check.end();
    }

    private static boolean isHidden(Member member) {
        return Modifier.isPrivate(member.getModifiers()) || member.isSynthetic();
    }

    private static Set<String> shownMethods(Class<?> face) {
        Set<String> shown = new TreeSet<>();
        for (Method m : face.getDeclaredMethods()) {
            if (!isHidden(m)) {
                StringBuilder text = new StringBuilder();
                for (Class<?> p : m.getParameterTypes()) {
                    text.append(text.length() == 0 ? "" : ",").append(p.getName());
                }
                shown.add(m.getReturnType().getName() + " " + m.getName() + "(" + text + ")");
            }
        }
        return shown;
    }

    private static Set<String> shownFields(Class<?> face) {
        Set<String> shown = new TreeSet<>();
        for (Field f : face.getDeclaredFields()) {
            if (!isHidden(f)) {
                shown.add(f.getType().getName() + " " + f.getName());
            }
        }
        return shown;
    }

    private static void compare(Check check, String what, String[] due, Set<String> shown) {
        for (String one : due) {
            check.due(what + ": " + one, shown.contains(one) ? 1 : 0, 1);
        }
        check.due("number of " + what, shown.size(), due.length);
    }
}
