import java.lang.reflect.Constructor;
import java.lang.reflect.Field;
import java.lang.reflect.Method;
import java.lang.reflect.Modifier;
import java.util.ArrayList;
import java.util.Collections;
import java.util.List;
import java.util.TreeSet;

/** The public face is the document's, no more and no less. */
public final class FaceTest {
    private static final Check CHECK = new Check();

    private static final String ARGUMENT = " IllegalArgumentException";
    private static final String STATE = " IllegalStateException";
    private static final String INDEX = " IndexOutOfBoundsException";

    private static final List<String> METHODS = List.of(
        "int setFilter(int)" + ARGUMENT,
        "int setPulse(int,int)" + ARGUMENT,
        "int setDeadTime(int)" + ARGUMENT,
        "int setStall(int)" + ARGUMENT,
        "int setMode(int)" + ARGUMENT + STATE,
        "int clearFault()" + STATE,
        "int schedule(int,int)" + ARGUMENT + STATE,
        "int spin(int,int,int)" + ARGUMENT + STATE,
        "int run(int)" + ARGUMENT,
        "int sensors(int)" + ARGUMENT,
        "int mode()",
        "int leg(int)" + INDEX,
        "int onTicks(int,boolean)" + INDEX,
        "int position()",
        "int counts(int)" + ARGUMENT,
        "int interval(int)" + INDEX,
        "double speed()",
        "int fault(int)" + ARGUMENT,
        "int waiting()",
        "int undo()" + STATE,
        "long digest()");

    public static void main(String[] args) {
        Class<?> face = HallCommutator.class;
        CHECK.due("the class", Modifier.toString(face.getModifiers()), "public final");
        CHECK.due("NONE", HallCommutator.NONE, -1);
        CHECK.due("methods", openMethods(face), new TreeSet<>(METHODS));
        CHECK.due("fields", openFields(face), Collections.singletonList("public static final int NONE"));
        CHECK.due("constructors", openConstructors(face), Collections.singletonList("public 0"));
        classesInside(face);
        CHECK.end();
    }

    private static TreeSet<String> openMethods(Class<?> face) {
        TreeSet<String> found = new TreeSet<>();
        for (Method m : face.getDeclaredMethods()) {
            if (Modifier.isPrivate(m.getModifiers()) || m.isSynthetic()) {
                continue;
            }
            CHECK.due(m.getName() + " is", Modifier.toString(m.getModifiers()), "public");
            StringBuilder text = new StringBuilder();
            for (Class<?> p : m.getParameterTypes()) {
                text.append(text.length() == 0 ? "" : ",").append(p.getSimpleName());
            }
            text.insert(0, m.getReturnType().getSimpleName() + " " + m.getName() + "(").append(")");
            for (Class<?> e : m.getExceptionTypes()) {
                text.append(" ").append(e.getSimpleName());
            }
            found.add(text.toString());
        }
        return found;
    }

    private static List<String> openFields(Class<?> face) {
        List<String> found = new ArrayList<>();
        for (Field f : face.getDeclaredFields()) {
            if (!Modifier.isPrivate(f.getModifiers())) {
                found.add(Modifier.toString(f.getModifiers()) + " " + f.getType() + " " + f.getName());
            }
        }
        return found;
    }

    private static List<String> openConstructors(Class<?> face) {
        List<String> found = new ArrayList<>();
        for (Constructor<?> c : face.getDeclaredConstructors()) {
            found.add(Modifier.toString(c.getModifiers()) + " " + c.getParameterCount());
        }
        return found;
    }

    /** Rules 1, 5 and 11 of the language, as far as the compiled classes show them. */
    private static void classesInside(Class<?> face) {
        TreeSet<String> open = new TreeSet<>();
        for (Method m : face.getMethods()) {
            if (m.getDeclaringClass() == face) {
                open.add(m.getName());
            }
        }
        CHECK.due("at most twelve classes", face.getDeclaredClasses().length < 12, true);
        for (Class<?> inside : face.getDeclaredClasses()) {
            CHECK.due(inside + " is static", Modifier.isStatic(inside.getModifiers()), true);
            CHECK.due(inside + " is not public", Modifier.isPublic(inside.getModifiers()), false);
            CHECK.due(inside + " has few fields", inside.getDeclaredFields().length <= 20, true);
            for (Method m : inside.getDeclaredMethods()) {
                CHECK.due(inside + " " + m.getName() + " is a name of the face", open.contains(m.getName()), false);
            }
            for (Field f : inside.getDeclaredFields()) {
                boolean loose = Modifier.isStatic(f.getModifiers()) && !Modifier.isFinal(f.getModifiers());
                CHECK.due(f + " is static and not final", loose, false);
            }
        }
    }
}
