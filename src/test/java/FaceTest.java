import java.lang.reflect.Constructor;
import java.lang.reflect.Executable;
import java.lang.reflect.Field;
import java.lang.reflect.Method;
import java.lang.reflect.Modifier;
import java.util.Arrays;
import java.util.TreeSet;

/** The public face: what the document lists, and no other member that can be seen from outside. */
public final class FaceTest {
    private static final String[] FACE = {
        "GateSteps(int, int)",
        "int sign(int) IllegalArgumentException IllegalStateException",
        "int clear()",
        "int letter()",
        "int box(int, boolean) IllegalArgumentException IllegalStateException",
        "int check(int, int, int) IndexOutOfBoundsException IllegalArgumentException",
        "int book(int, int, int) IndexOutOfBoundsException IllegalStateException",
        "int through(int, int) IndexOutOfBoundsException IllegalArgumentException",
        "int weigh(int, int, int) IndexOutOfBoundsException IllegalArgumentException",
        "boolean tolerance(int)",
        "int noShow(int) IllegalArgumentException",
        "int change(int, int) IndexOutOfBoundsException",
        "int queue(int, int)",
        "int look(int, int) IndexOutOfBoundsException",
        "int at(int, int) IndexOutOfBoundsException",
        "int count(int)",
        "public static final int NONE",
    };

    public static void main(String[] args) {
        TreeSet<String> seen = new TreeSet<>();
        TreeSet<String> hidden = new TreeSet<>();
        TreeSet<String> names = new TreeSet<>();
        for (Constructor<?> c : GateSteps.class.getDeclaredConstructors()) {
            if (!Modifier.isPrivate(c.getModifiers())) {
                seen.add("GateSteps" + tail(c));
            }
        }
        for (Method m : GateSteps.class.getDeclaredMethods()) {
            if (Modifier.isPrivate(m.getModifiers())) {
                hidden.add(m.getName());
            } else {
                names.add(m.getName());
                seen.add(m.getReturnType() + " " + m.getName() + tail(m));
            }
        }
        for (Field f : GateSteps.class.getDeclaredFields()) {
            if (!Modifier.isPrivate(f.getModifiers())) {
                seen.add(Modifier.toString(f.getModifiers()) + " " + f.getType() + " " + f.getName());
            }
        }
        Due.same("the face", String.join("\n", seen), String.join("\n", new TreeSet<>(Arrays.asList(FACE))));
        hidden.retainAll(names);
        Due.is("private methods with a public one's name", "[]", () -> hidden);
        Due.is("the class", "public final", () -> Modifier.toString(GateSteps.class.getModifiers()));
        Due.is("NONE", -1, () -> GateSteps.NONE);
        Due.end();
    }

    private static String tail(Executable e) {
        StringBuilder text = new StringBuilder("(");
        for (Class<?> p : e.getParameterTypes()) {
            text.append(text.length() > 1 ? ", " : "").append(p);
        }
        text.append(")");
        for (Class<?> x : e.getExceptionTypes()) {
            text.append(" ").append(x.getSimpleName());
        }
        return text.toString();
    }
}
