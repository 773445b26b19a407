import java.io.ByteArrayOutputStream;
import java.io.PrintStream;
import java.lang.reflect.Method;
import java.lang.reflect.Modifier;
import java.net.URL;
import java.net.URLClassLoader;
import java.nio.charset.StandardCharsets;
import java.nio.file.Files;
import java.nio.file.Path;
import java.util.regex.Matcher;
import java.util.regex.Pattern;
import javax.tools.JavaCompiler;
import javax.tools.ToolProvider;

/** README.md's example compiles as it stands there, and prints what README.md says. */
public final class ReadmeTest {
    public static void main(String[] args) throws Exception {
        Check check = new Check();
        String readme = Files.readString(Path.of("README.md"));
        String program = block(readme, "java");
        Path room = Files.createTempDirectory("readme");
        try {
            boolean compiled = compiles(room, program);
            check.due("README.md's example compiles", true, compiled);
            String lines = compiled ? printed(room, nameOf(program)) : "";
            check.due("what it prints", block(readme, "text"), lines);
        } finally {
            removeAll(room);
        }
        checkCalls(check, readme);
        check.end();
    }

    /** The lines of the one block of that kind. */
    private static String block(String readme, String kind) {
        Matcher found = Pattern.compile("(?ms)^```" + kind + "\n(.*?)^```$").matcher(readme);
        if (!found.find()) {
            throw new IllegalStateException("README.md has no block of " + kind);
        }
        String lines = found.group(1);
        if (found.find()) {
            throw new IllegalStateException("README.md has two blocks of " + kind);
        }
        return lines;
    }

    private static String nameOf(String program) {
        Matcher found = Pattern.compile("public final class (\\w+)").matcher(program);
        if (!found.find()) {
            throw new IllegalStateException("README.md's example is no whole class");
        }
        return found.group(1);
    }

    private static boolean compiles(Path room, String program) throws Exception {
        Path file = room.resolve(nameOf(program) + ".java");
        Files.writeString(file, program);
        JavaCompiler compiler = ToolProvider.getSystemJavaCompiler();
        return compiler.run(null, null, null, "-Xlint:all", "-Werror", "-d", room.toString(),
                "-cp", System.getProperty("java.class.path"), file.toString()) == 0;
    }

    private static String printed(Path room, String name) throws Exception {
        ByteArrayOutputStream bytes = new ByteArrayOutputStream();
        PrintStream before = System.out;
        try (URLClassLoader loader = new URLClassLoader(new URL[] {room.toUri().toURL()})) {
            Method main = loader.loadClass(name).getMethod("main", String[].class);
            System.setOut(new PrintStream(bytes, true, StandardCharsets.UTF_8));
            main.invoke(null, (Object) new String[0]);
        } finally {
            System.setOut(before);
        }
        return bytes.toString(StandardCharsets.UTF_8).replace(System.lineSeparator(), "\n");
    }

    private static void removeAll(Path room) throws Exception {
        try (var files = Files.list(room)) {
            for (Path file : files.toList()) {
                Files.delete(file);
            }
        }
        Files.delete(room);
    }

    /** Each call of the face stands in README.md's table, with as many arguments as it takes. */
    private static void checkCalls(Check check, String readme) {
        for (Method method : SceneCycle.class.getDeclaredMethods()) {
            if (Modifier.isPublic(method.getModifiers())) {
                int count = method.getParameterCount();
                String arguments = count == 0 ? "" : "\\w+" + ", \\w+".repeat(count - 1);
                Pattern told = Pattern.compile("`" + method.getName() + "\\(" + arguments + "\\)`");
                check.due("README.md tells of " + method, true, told.matcher(readme).find());
            }
        }
    }
}
