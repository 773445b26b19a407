import java.lang.reflect.Constructor;
import java.lang.reflect.Field;
import java.lang.reflect.Method;
import java.lang.reflect.Modifier;
import java.util.Arrays;
import java.util.TreeSet;

/** The face is the document's, and nothing else can be seen of the class. */
public final class FaceTest {
    private static final String[] FACE = {
        "boolean flag(int)", "boolean give(int, int)", "boolean mark(int, boolean)",
        "int cell(int, int, int)", "int cycle(int, int, int)", "int cycles()", "int load(int)",
        "int object(int, int)", "int put(int, int, int)", "int seen(int, int)", "int steps()",
        "int variable(int)"
    };

    public static void main(String[] args) {
        Check check = new Check();
        TreeSet<String> open = new TreeSet<>();
        TreeSet<String> openNames = new TreeSet<>();
        for (Method method : SceneCycle.class.getDeclaredMethods()) {
            if (!Modifier.isPrivate(method.getModifiers()) && !method.isSynthetic()) {
                open.add(signature(method));
                openNames.add(method.getName());
                check.due(method + " is public", true, Modifier.isPublic(method.getModifiers()));
                check.due(method + " is static", false, Modifier.isStatic(method.getModifiers()));
            }
        }
        check.due("the methods", new TreeSet<>(Arrays.asList(FACE)).toString(), open.toString());
        for (Field field : SceneCycle.class.getDeclaredFields()) {
            check.due(field + " is private", true, Modifier.isPrivate(field.getModifiers()));
        }
        checkClass(check);
        checkInside(check, openNames);
        check.end();
    }

    private static void checkClass(Check check) {
        check.due("public", true, Modifier.isPublic(SceneCycle.class.getModifiers()));
        check.due("final", true, Modifier.isFinal(SceneCycle.class.getModifiers()));
        Constructor<?>[] constructors = SceneCycle.class.getDeclaredConstructors();
        check.due("constructors", 1, constructors.length);
        check.due("the constructor", "[int]", Arrays.toString(constructors[0].getParameterTypes()));
        check.due("it is public", true, Modifier.isPublic(constructors[0].getModifiers()));
    }

    private static void checkInside(Check check, TreeSet<String> openNames) {
        for (Class<?> inside : SceneCycle.class.getDeclaredClasses()) {
            int modifiers = inside.getModifiers();
            check.due(inside + " is static", true, Modifier.isStatic(modifiers));
            check.due(inside + " is hidden", false,
                    Modifier.isPublic(modifiers) || Modifier.isProtected(modifiers));
            for (Method method : inside.getDeclaredMethods()) {
                check.due(method + " bears a name of the face", false,
                        openNames.contains(method.getName()));
            }
        }
    }

    private static String signature(Method method) {
        StringBuilder text = new StringBuilder();
        for (Class<?> type : method.getParameterTypes()) {
            text.append(text.length() == 0 ? "" : ", ").append(type.getName());
        }
        return method.getReturnType().getName() + " " + method.getName() + "(" + text + ")";
    }
}
