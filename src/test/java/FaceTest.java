import java.lang.reflect.Constructor;
import java.lang.reflect.Field;
import java.lang.reflect.Method;
import java.lang.reflect.Modifier;
import java.util.Arrays;
import java.util.TreeSet;

/** The public face is the document's, and nothing else of the class can be seen from outside. */
public final class FaceTest {
    private static final String[] FACE = {
        "boolean begin(int, int)",
        "boolean ground(int)",
        "boolean perform(int)",
        "boolean set(int, int, int)",
        "int act(int, int, int)",
        "int cell(int, int)",
        "int count(int)",
        "int earth(int, int, int, boolean)",
        "int height(int)",
        "int lay(int, int, int)",
        "int line()",
        "int look(int, int) IndexOutOfBoundsException NoSuchElementException",
        "int next(int)",
        "int order(int, int)",
        "int rise(int, int)",
        "int step(int)",
        "long share(int) NoSuchElementException",
        "long worst(int)",
    };

    public static void main(String[] args) {
        Check.due("class is public and final", Modifier.PUBLIC | Modifier.FINAL, SlipBench.class.getModifiers());
        TreeSet<String> seen = new TreeSet<>();
        TreeSet<String> hidden = new TreeSet<>();
        for (Method m : SlipBench.class.getDeclaredMethods()) {
            if (Modifier.isPrivate(m.getModifiers())) {
                hidden.add(m.getName());
            } else {
                seen.add(told(m));
                Check.due(m + " is public and no more", Modifier.PUBLIC, m.getModifiers());
            }
        }
        Check.due("the methods " + seen, true, seen.equals(new TreeSet<>(Arrays.asList(FACE))));
        for (Method m : SlipBench.class.getMethods()) {
            Check.due("a private method is named " + m.getName(), false, hidden.contains(m.getName()));
        }
        fields();
        Constructor<?>[] constructors = SlipBench.class.getDeclaredConstructors();
        Check.due("constructors", 1, constructors.length);
        Check.due("constructor's parameters", 0, constructors[0].getParameterCount());
        Check.due("constructor is public", Modifier.PUBLIC, constructors[0].getModifiers());
        for (Class<?> inside : SlipBench.class.getDeclaredClasses()) {
            Check.due(inside + " is static", true, Modifier.isStatic(inside.getModifiers()));
            Check.due(inside + " is public", false, Modifier.isPublic(inside.getModifiers()));
        }
        Check.end();
    }

    private static void fields() {
        for (Field f : SlipBench.class.getDeclaredFields()) {
            boolean isNone = f.getName().equals("NONE");
            Check.due(f + " is private", !isNone, Modifier.isPrivate(f.getModifiers()));
            if (isNone) {
                int due = Modifier.PUBLIC | Modifier.STATIC | Modifier.FINAL;
                Check.due("NONE's modifiers", due, f.getModifiers());
                Check.due("NONE is an int", true, f.getType() == int.class);
            }
        }
        Check.due("NONE", -1, SlipBench.NONE);
    }

    private static String told(Method m) {
        StringBuilder s = new StringBuilder();
        s.append(m.getReturnType().getName()).append(' ').append(m.getName()).append('(');
        for (int k = 0; k < m.getParameterCount(); k++) {
            s.append(k > 0 ? ", " : "").append(m.getParameterTypes()[k].getName());
        }
        s.append(')');
        for (Class<?> e : m.getExceptionTypes()) {
            s.append(' ').append(e.getSimpleName());
        }
        return s.toString();
    }
}
