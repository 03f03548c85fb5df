import java.lang.reflect.Constructor;
import java.lang.reflect.Field;
import java.lang.reflect.Method;
import java.lang.reflect.Modifier;
import java.util.ArrayList;
import java.util.Arrays;
import java.util.List;
import java.util.TreeSet;

/** The public face of the document, and those rules of LANGUAGE.md that reflection can see. */
public final class FaceTest {
    private static final String[] FACE = {
        "int mode(int, int)", "int artist(int)", "boolean like(int, int, int)", "boolean rival(int, int, boolean)",
        "boolean ill(int, boolean)", "int set(int, int)", "boolean season(int, int)", "int near(int, int)",
        "int count(int)", "boolean put(int, int, int)", "int at(int, int) throws java.util.NoSuchElementException",
        "int wrong()", "int best()", "int mend()", "int piece(int, int, int, boolean)", "boolean played(int, int)",
        "int row(int, int)", "int told(int)", "int vote(int, int)", "boolean kin(int, int, boolean)",
        "int points(int)", "int prize(int)"
    };

    public static void main(String[] args) {
        Class<?> face = SeasonOfHours.class;
        Check.due("modifiers", face.getModifiers(), Modifier.PUBLIC | Modifier.FINAL);
        Check.due("interfaces", face.getInterfaces().length, 0);
        Check.yes("stands alone", face.getSuperclass() == Object.class);
        List<String> names = publicMethods(face);
        fields(face);
        constructors(face);
        privateMethods(face, names);
        for (Class<?> inside : face.getDeclaredClasses()) {
            Check.yes(inside + " is static", Modifier.isStatic(inside.getModifiers()));
            Check.no(inside + " is public", Modifier.isPublic(inside.getModifiers()));
            Check.no(inside + " is protected", Modifier.isProtected(inside.getModifiers()));
            privateMethods(inside, names);
            staticFields(inside);
        }
        Check.yes("some twelve classes", face.getDeclaredClasses().length < 12);
        Check.end();
    }

    private static List<String> publicMethods(Class<?> face) {
        TreeSet<String> due = new TreeSet<>(Arrays.asList(FACE));
        List<String> names = new ArrayList<>();
        for (Method m : face.getDeclaredMethods()) {
            if (Modifier.isPrivate(m.getModifiers())) {
                continue;
            }
            names.add(m.getName());
            Check.due("modifiers of " + m.getName(), m.getModifiers(), Modifier.PUBLIC);
            if (!due.remove(signature(m))) {
                Check.fault("not of the face: " + signature(m));
            }
        }
        for (String missing : due) {
            Check.fault("missing: " + missing);
        }
        return names;
    }

    private static String signature(Method m) {
        StringBuilder text = new StringBuilder(m.getReturnType().getName() + " " + m.getName() + "(");
        for (int i = 0; i < m.getParameterCount(); i++) {
            text.append(i == 0 ? "" : ", ").append(m.getParameterTypes()[i].getName());
        }
        text.append(")");
        for (Class<?> thrown : m.getExceptionTypes()) {
            text.append(" throws ").append(thrown.getName());
        }
        return text.toString();
    }

    private static void fields(Class<?> face) {
        for (Field f : face.getDeclaredFields()) {
            boolean isNone = f.getName().equals("NONE");
            int due = isNone ? Modifier.PUBLIC | Modifier.STATIC | Modifier.FINAL : Modifier.PRIVATE;
            int asked = isNone ? -1 : Modifier.PUBLIC | Modifier.PROTECTED | Modifier.PRIVATE;
            Check.due("access of " + f, f.getModifiers() & asked, due);
            Check.yes("type of " + f, !isNone || f.getType() == int.class);
        }
        Check.due("NONE", SeasonOfHours.NONE, -1);
        staticFields(face);
    }

    private static void staticFields(Class<?> c) {
        int own = 0;
        for (Field f : c.getDeclaredFields()) {
            if (Modifier.isStatic(f.getModifiers())) {
                Check.yes(f + " is final", Modifier.isFinal(f.getModifiers()));
            } else {
                own++;
            }
        }
        Check.yes("some twenty fields in " + c, own <= 20);
    }

    private static void constructors(Class<?> face) {
        Constructor<?>[] all = face.getDeclaredConstructors();
        Check.due("constructors", all.length, 1);
        Check.due("constructor's access", all[0].getModifiers(), Modifier.PUBLIC);
        Check.due("constructor's parameters", all[0].getParameterCount(), 0);
    }

    private static void privateMethods(Class<?> c, List<String> publicNames) {
        for (Method m : c.getDeclaredMethods()) {
            Check.yes("seven parameters at most: " + m, m.getParameterCount() <= 7);
            Check.no("no lambda, no bridge: " + m, m.isSynthetic());
            if (c != SeasonOfHours.class || Modifier.isPrivate(m.getModifiers())) {
                Check.no("the name of a public method: " + m, publicNames.contains(m.getName()));
            }
        }
    }
}
