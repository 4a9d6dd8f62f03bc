import java.lang.reflect.Constructor;
import java.lang.reflect.Field;
import java.lang.reflect.Method;
import java.lang.reflect.Modifier;
import java.util.Arrays;
import java.util.Set;
import java.util.TreeSet;

/** The public face of the document, and nothing beside it that is not private. */
public final class FaceTest {
    private static final String[] METHODS = {
        "boolean write(int, int, int)", "int put(int, int, int, boolean)", "boolean cancel(int)",
        "boolean suspend(int, boolean)", "void noise(boolean, long)", "boolean outage(boolean, int)",
        "int run(int)", "int time()", "int outcome(boolean, int)", "int taken(int, int)",
        "int missing(int)", "int stored(int, int)", "int report()", "int window()", "int alerts()",
        "int sent(boolean)", "int faults(boolean)", "long encode(boolean, long)",
        "long decode(boolean, long)"
    };

    private static String textOf(Method method) {
        StringBuilder text = new StringBuilder(method.getReturnType().getName());
        text.append(' ').append(method.getName()).append('(');
        for (Class<?> type : method.getParameterTypes()) {
            text.append(text.charAt(text.length() - 1) == '(' ? "" : ", ").append(type.getName());
        }
        return text.append(')').toString();
    }

    private static Set<String> shownMethods() {
        Set<String> shown = new TreeSet<>();
        for (Method method : FarLink.class.getDeclaredMethods()) {
            if (!Modifier.isPrivate(method.getModifiers())) {
                boolean isPlain = method.getModifiers() == Modifier.PUBLIC;
                shown.add(textOf(method) + (isPlain ? "" : " with other modifiers"));
            }
        }
        return shown;
    }

    public static void main(String[] args) {
        Check.due("modifiers of the class", FarLink.class.getModifiers(), Modifier.PUBLIC | Modifier.FINAL);
        Set<String> shown = shownMethods();
        Set<String> due = new TreeSet<>(Arrays.asList(METHODS));
        Check.due("methods " + shown + ", due are " + due, shown.equals(due), true);
        Constructor<?>[] constructors = FarLink.class.getDeclaredConstructors();
        Check.due("constructors", constructors.length, 1);
        Check.due("constructor", constructors[0].toString().equals("public FarLink(int)"), true);
        for (Field field : FarLink.class.getDeclaredFields()) {
            Check.due("private: " + field, Modifier.isPrivate(field.getModifiers()), true);
        }
        for (Class<?> inside : FarLink.class.getDeclaredClasses()) {
            Check.due("static: " + inside, Modifier.isStatic(inside.getModifiers()), true);
            Check.due("hidden: " + inside, Modifier.isPublic(inside.getModifiers()), false);
        }
        Check.end();
    }
}
