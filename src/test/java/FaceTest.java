import java.lang.reflect.Constructor;
import java.lang.reflect.Field;
import java.lang.reflect.Method;
import java.lang.reflect.Modifier;
import java.util.Set;
import java.util.TreeSet;

/** The class has the document's face and no more, and keeps to what of LANGUAGE.md can be seen in the class. */
public final class FaceTest {
    private static final Set<String> METHODS = Set.of(
            "int insert(int, int, int)", "int delete(int, int)", "int length(int)", "int at(int, int)",
            "int send(int, int)", "int deliver(int)", "boolean discard(int)", "int hear(int, int)",
            "int believed(int, int)", "int octets(int)", "int octet(int, int)", "int events(int)",
            "int heads(int)", "int head(int, int)", "int ancestor(int, int, int, int)", "int critical(int)",
            "int replayed(int)", "int moves(int)", "int operation(int, int)");

    private final Checks checks = new Checks("FaceTest");

    public static void main(String[] args) {
        FaceTest test = new FaceTest();
        test.face();
        test.classesInside();
        test.checks.end();
    }

    private void face() {
        int modifiers = EventGraphText.class.getModifiers();
        checks.due("public and final", Modifier.isPublic(modifiers) && Modifier.isFinal(modifiers), true);
        Constructor<?>[] constructors = EventGraphText.class.getDeclaredConstructors();
        checks.due("constructors", constructors.length, 1);
        checks.due("a public constructor without parameters",
                Modifier.isPublic(constructors[0].getModifiers()) && constructors[0].getParameterCount() == 0, true);
        Set<String> methods = new TreeSet<>();
        for (Method method : EventGraphText.class.getDeclaredMethods()) {
            if (!Modifier.isPrivate(method.getModifiers()) && !method.isSynthetic()) {
                methods.add(form(method));
            }
        }
        checks.due("methods", methods.toString(), new TreeSet<>(METHODS).toString());
        Set<String> constants = new TreeSet<>();
        for (Field field : EventGraphText.class.getDeclaredFields()) {
            if (!Modifier.isPrivate(field.getModifiers())) {
                constants.add(Modifier.toString(field.getModifiers()) + " " + field.getType() + " " + field.getName());
            }
        }
        checks.due("constants", constants.toString(), "[public static final int MISSING, "
                + "public static final int NONE, public static final int NOTHING]");
    }

    private static String form(Method method) {
        StringBuilder form = new StringBuilder(method.getReturnType() + " " + method.getName() + "(");
        for (Class<?> type : method.getParameterTypes()) {
            form.append(form.charAt(form.length() - 1) == '(' ? "" : ", ").append(type);
        }
        return form.append(")").toString();
    }

    private void classesInside() {
        Set<String> names = new TreeSet<>();
        for (String method : METHODS) {
            names.add(method.substring(method.indexOf(' ') + 1, method.indexOf('(')));
        }
        dueRules(EventGraphText.class, names);
        for (Class<?> inside : EventGraphText.class.getDeclaredClasses()) {
            checks.due("static class " + inside.getName(), Modifier.isStatic(inside.getModifiers()), true);
            dueRules(inside, names);
        }
        checks.due("at most twelve classes", EventGraphText.class.getDeclaredClasses().length <= 11, true);
    }

    private void dueRules(Class<?> type, Set<String> names) {
        int fields = 0;
        for (Field field : type.getDeclaredFields()) {
            if (Modifier.isStatic(field.getModifiers())) {
                checks.due("final static field " + field, Modifier.isFinal(field.getModifiers()), true);
            } else {
                fields++;
            }
        }
        checks.due("at most twenty fields in " + type.getName(), fields <= 20, true);
        for (Method method : type.getDeclaredMethods()) {
            checks.due("at most seven parameters of " + method, method.getParameterCount() <= 7, true);
            if (Modifier.isPrivate(method.getModifiers())) {
                checks.due("a private method's own name " + method, names.contains(method.getName()), false);
            }
        }
    }
}
