import java.io.ByteArrayOutputStream;
import java.io.IOException;
import java.io.PrintStream;
import java.lang.reflect.Field;
import java.lang.reflect.InvocationTargetException;
import java.lang.reflect.Method;
import java.lang.reflect.Modifier;
import java.net.URL;
import java.net.URLClassLoader;
import java.nio.charset.StandardCharsets;
import java.nio.file.Files;
import java.nio.file.Path;
import java.util.ArrayList;
import java.util.HashSet;
import java.util.List;
import java.util.Set;
import java.util.regex.Matcher;
import java.util.regex.Pattern;
import javax.tools.ToolProvider;

/** Each example in README.md answers as it says, and the page names every call and every error. */
public final class ReadmeTest {
    private static final Pattern CALL =
            Pattern.compile("display\\.(\\w+)\\((.*)\\);\\s*// (-?\\w+)(: .*)?");
    private static final String NEW = "MarqueeDisplay display = new MarqueeDisplay();";
    private static final String PROGRAM = "public final class Show {";

    private ReadmeTest() {
    }

    public static void main(String[] args) throws Exception {
        List<String> page = Files.readAllLines(Path.of("README.md"));
        Set<String> called = new HashSet<>();
        for (List<String> example : blocks(page, "```java")) {
            if (!example.get(0).equals(PROGRAM)) {
                runCalls(example, called);
            }
        }
        runProgram(page);
        for (Method method : MarqueeDisplay.class.getDeclaredMethods()) {
            if (Modifier.isPublic(method.getModifiers())) {
                dueCall(page, method, called);
            }
        }
        for (Field field : MarqueeDisplay.class.getFields()) {
            dueConstant(page, field);
        }
        Due.end();
    }

    /** The blocks of the page that begin with this fence, without their fences. */
    private static List<List<String>> blocks(List<String> page, String fence) {
        List<List<String>> found = new ArrayList<>();
        boolean inside = false;
        for (String line : page) {
            if (line.equals(fence)) {
                found.add(new ArrayList<>());
                inside = true;
            } else if (line.startsWith("```")) {
                inside = false;
            } else if (inside) {
                found.get(found.size() - 1).add(line);
            }
        }
        Due.due("README.md has blocks of " + fence, found.isEmpty() ? 0 : 1, 1);
        return found;
    }

    // ---- examples of calls

    private static void runCalls(List<String> example, Set<String> called) throws Exception {
        MarqueeDisplay display = new MarqueeDisplay();
        Due.due("an example begins with a new object", example.get(0).equals(NEW) ? 1 : 0, 1);
        for (String line : example.subList(1, example.size())) {
            Matcher call = CALL.matcher(line);
            if (!call.matches()) {
                Due.due("a call is in the line: " + line, 0, 1);
                continue;
            }
            called.add(call.group(1));
            Due.due(line, answer(display, call.group(1), call.group(2)), number(call.group(3)));
        }
    }

    private static int answer(MarqueeDisplay display, String name, String text)
            throws IllegalAccessException, InvocationTargetException {
        String[] arguments = text.isEmpty() ? new String[0] : text.split(", ");
        for (Method method : MarqueeDisplay.class.getMethods()) {
            if (method.getName().equals(name)
                    && method.getParameterCount() == arguments.length) {
                return (int) method.invoke(display, values(method, arguments));
            }
        }
        throw new IllegalArgumentException("no such call: " + name + "(" + text + ")");
    }

    private static Object[] values(Method method, String[] arguments) {
        Object[] values = new Object[arguments.length];
        for (int i = 0; i < values.length; i++) {
            values[i] = method.getParameterTypes()[i] == boolean.class
                    ? (Object) arguments[i].equals("true") : Integer.valueOf(arguments[i]);
        }
        return values;
    }

    private static int number(String answer) throws ReflectiveOperationException {
        boolean constant = Character.isUpperCase(answer.charAt(0));
        return constant ? MarqueeDisplay.class.getField(answer).getInt(null)
                : Integer.parseInt(answer);
    }

    // ---- the whole program and what it prints

    private static void runProgram(List<String> page) throws Exception {
        for (List<String> example : blocks(page, "```java")) {
            if (example.get(0).equals(PROGRAM)) {
                List<String> want = blocks(page, "```text").get(0);
                Due.due("the program prints what the page says",
                        printed(example).equals(want) ? 1 : 0, 1);
                return;
            }
        }
        Due.due("a whole program is on the page", 0, 1);
    }

    private static List<String> printed(List<String> program) throws Exception {
        Path folder = Files.createDirectories(Path.of("build", "readme"));
        Path file = Files.write(folder.resolve("Show.java"), program);
        int status = ToolProvider.getSystemJavaCompiler().run(null, null, null,
                "-cp", System.getProperty("java.class.path"), "-d", folder.toString(),
                file.toString());
        Due.due("the program compiles", status, 0);
        return status == 0 ? runIn(folder) : List.of();
    }

    private static List<String> runIn(Path folder) throws IOException,
            ReflectiveOperationException {
        PrintStream out = System.out;
        ByteArrayOutputStream caught = new ByteArrayOutputStream();
        URL[] places = {folder.toUri().toURL()};
        try (URLClassLoader loader = new URLClassLoader(places)) {
            System.setOut(new PrintStream(caught, true, StandardCharsets.UTF_8));
            loader.loadClass("Show").getMethod("main", String[].class)
                    .invoke(null, (Object) new String[0]);
        } finally {
            System.setOut(out);
        }
        return caught.toString(StandardCharsets.UTF_8).lines().toList();
    }

    // ---- what the page names

    private static void dueCall(List<String> page, Method method, Set<String> called) {
        int places = 0;
        for (String line : page) {
            if (line.startsWith("| `" + method.getName() + "(")) {
                String arguments = line.substring(line.indexOf('(') + 1, line.indexOf(')'));
                places++;
                Due.due("arguments of " + method.getName(),
                        arguments.isEmpty() ? 0 : arguments.split(", ").length,
                        method.getParameterCount());
            }
        }
        Due.due("rows of the table for " + method.getName(), places, 1);
        Due.due(method.getName() + " is in an example",
                called.contains(method.getName()) ? 1 : 0, 1);
    }

    private static void dueConstant(List<String> page, Field field)
            throws IllegalAccessException {
        Pattern row = Pattern.compile("\\| `" + field.getName() + "` *\\| "
                + field.getInt(null) + " .*");
        int places = 0;
        for (String line : page) {
            if (row.matcher(line).matches()) {
                places++;
            }
        }
        Due.due("rows of the table for " + field.getName(), places, 1);
    }
}
