import java.lang.reflect.Constructor;
import java.lang.reflect.Executable;
import java.lang.reflect.Field;
import java.lang.reflect.Method;
import java.lang.reflect.Modifier;
import java.nio.file.Files;
import java.nio.file.Path;
import java.util.ArrayList;
import java.util.HashMap;
import java.util.HashSet;
import java.util.List;
import java.util.Map;
import java.util.Set;
import java.util.regex.Matcher;
import java.util.regex.Pattern;

/**
 * The rules of ../shared/LANGUAGE.md that can be seen in the program's words and in its classes.
 * Rule 1, the face, is FaceTest's; that no call throws (rule 7) is left to the tests of the calls.
 */
public final class LanguageTest {
    private static final Path PROGRAM = Path.of("src", "main", "java", "MarqueeDisplay.java");
    private static final Pattern METHOD = Pattern.compile(
            "(?m)^ +(?:(?:public|private|protected|static|final|abstract) )*(?:[\\w<>\\[\\]]+ )?"
            + "(\\w+)\\([^()]*\\) \\{");
    private static final Pattern CALL = Pattern.compile("\\b(\\w+)\\(");
    private static final Set<String> NO_CALLS =
            Set.of("if", "for", "while", "switch", "return", "else", "do");

    private LanguageTest() {
    }

    public static void main(String[] args) throws Exception {
        String words = withoutComments(Files.readString(PROGRAM));
        List<Class<?>> classes = List.of(MarqueeDisplay.class.getNestMembers());
        onePublicClass(words);
        for (Class<?> type : classes) {
            classesInside(type);
            types(type);
            staticFields(type, words);
            sizes(type);
        }
        due("at most some twelve classes", classes.size() <= 12);
        library(words);
        forbiddenWords(words);
        Map<String, String> bodies = bodies(words);
        lengths(bodies);
        depth(bodies);
        Due.end();
    }

    private static void due(String rule, boolean holds) {
        Due.due(rule, holds ? 1 : 0, 1);
    }

    private static String withoutComments(String text) {
        return text.replaceAll("(?s)/\\*.*?\\*/", " ").replaceAll("//[^\n]*", " ");
    }

    private static boolean has(String words, String pattern) {
        return Pattern.compile(pattern).matcher(words).find();
    }

    private static void onePublicClass(String words) {
        due("the file has no package line", !has(words, "\\bpackage\\b"));
        due("the file has one class at its top, and it is public",
                has(words, "\\A\\s*(import [\\w.]+;\\s*)*public final class MarqueeDisplay \\{")
                && !has(words, "(?m)^\\S.*\\b(class|interface|enum|record)\\b(?! MarqueeDisplay)"));
    }

    private static void classesInside(Class<?> type) {
        if (type == MarqueeDisplay.class) {
            return;
        }
        String rule = "rule 2: " + type.getName();
        due(rule + " is a member class", type.isMemberClass());
        due(rule + " is static", Modifier.isStatic(type.getModifiers()));
        due(rule + " is private or package-visible",
                (type.getModifiers() & (Modifier.PUBLIC | Modifier.PROTECTED)) == 0);
    }

    // ---- types

    private static void types(Class<?> type) {
        for (Field field : type.getDeclaredFields()) {
            due("rule 3: the type of " + field, isAllowed(field.getType()));
        }
        for (Executable part : parts(type)) {
            for (Class<?> parameter : part.getParameterTypes()) {
                due("rule 3: a parameter of " + part, isAllowed(parameter));
            }
        }
        for (Method method : type.getDeclaredMethods()) {
            due("rule 3: the answer of " + method, isAllowed(method.getReturnType()));
        }
    }

    private static List<Executable> parts(Class<?> type) {
        List<Executable> parts = new ArrayList<>(List.of(type.getDeclaredMethods()));
        parts.addAll(List.<Constructor<?>>of(type.getDeclaredConstructors()));
        return parts;
    }

    private static boolean isAllowed(Class<?> type) {
        if (!type.isArray()) {
            return type.isPrimitive() || isOwn(type) || Set.of("java.lang.String",
                    "java.lang.StringBuilder", "java.lang.Integer", "java.util.ArrayList",
                    "java.util.List").contains(type.getName());
        }
        Class<?> element = type.getComponentType();
        boolean rowOfNumbers = element.isArray() && element.getComponentType().isPrimitive();
        return element.isPrimitive() || isOwn(element) || rowOfNumbers;
    }

    private static boolean isOwn(Class<?> type) {
        return type.getNestHost() == MarqueeDisplay.class;
    }

    // ---- static fields

    private static void staticFields(Class<?> type, String words) {
        for (Field field : type.getDeclaredFields()) {
            if (!Modifier.isStatic(field.getModifiers())) {
                continue;
            }
            due("rule 5: " + field + " is final", Modifier.isFinal(field.getModifiers()));
            due("rule 5: " + field + " is a constant or an array of numbers",
                    Set.of(int.class, long.class, boolean.class, char.class, String.class,
                    int[].class, long[].class, char[].class, byte[].class)
                    .contains(field.getType()));
            if (field.getType().isArray()) {
                due("rule 5: " + field + " is never changed", !has(words, "\\b" + field.getName()
                        + "\\[[^\\]]*\\]\\s*([-+*/%&|^<>]*=[^=]|\\+\\+|--)"));
            }
        }
    }

    // ---- words

    private static void library(String words) {
        Matcher line = Pattern.compile("\\bimport ([^;]+);").matcher(words);
        while (line.find()) {
            due("rule 4: import " + line.group(1), Set.of("java.util.ArrayList",
                    "java.util.List", "java.util.Arrays", "java.util.Iterator")
                    .contains(line.group(1)));
        }
        Matcher name = Pattern.compile("\\b([A-Z]\\w*[a-z]\\w*)\\.(\\w+)").matcher(words);
        while (name.find()) {
            String used = name.group();
            due("rule 4: " + used, Set.of("Integer", "Long", "Math").contains(name.group(1))
                    && !used.endsWith("Exact") && !used.equals("Math.random")
                    || Set.of("System.arraycopy", "Arrays.copyOf", "Arrays.copyOfRange",
                    "Arrays.fill", "List.of").contains(used));
        }
    }

    private static void forbiddenWords(String words) {
        for (String word : List.of("throw", "throws", "try", "catch", "finally", "synchronized",
                "assert", "volatile", "native", "equals", "hashCode", "toString", "java")) {
            due("rules 4 and 6: no " + word, !has(words.replaceAll("\\bimport [^;]+;", ""),
                    "\\b" + word + "\\b"));
        }
        due("rule 2: no lambda and no method reference", !has(words, "->|::"));
        due("rule 5: no static initialiser block", !has(words, "\\bstatic\\s*\\{"));
        due("rule 10: no texts joined by +", !has(words, "\"\\s*\\+|\\+\\s*\""));
    }

    // ---- sizes

    private static void sizes(Class<?> type) {
        int fields = 0;
        for (Field field : type.getDeclaredFields()) {
            fields += Modifier.isStatic(field.getModifiers()) ? 0 : 1;
        }
        due("rule 11: " + type + " has at most some twenty fields", fields <= 20);
        for (Executable part : parts(type)) {
            due("rule 11: " + part + " takes at most seven parameters",
                    part.getParameterCount() <= 7);
        }
    }

    /** The bodies by the name of the method; those of the same name are put together. */
    private static Map<String, String> bodies(String words) {
        Map<String, String> bodies = new HashMap<>();
        Matcher method = METHOD.matcher(words);
        while (method.find()) {
            if (!NO_CALLS.contains(method.group(1))) {
                bodies.merge(method.group(1), block(words, method.end()), String::concat);
            }
        }
        for (Class<?> type : MarqueeDisplay.class.getNestMembers()) {
            for (Method found : type.getDeclaredMethods()) {
                due(found + " is found in the file", bodies.containsKey(found.getName()));
            }
        }
        return bodies;
    }

    private static String block(String words, int begin) {
        int open = 1;
        int end = begin;
        while (open > 0 && end < words.length()) {
            char sign = words.charAt(end);
            open += sign == '{' ? 1 : sign == '}' ? -1 : 0;
            end++;
        }
        return words.substring(begin, end);
    }

    private static void lengths(Map<String, String> bodies) {
        for (Map.Entry<String, String> body : bodies.entrySet()) {
            due("rule 11: " + body.getKey() + " has at most some sixty lines",
                    body.getValue().lines().count() <= 60);
        }
    }

    private static void depth(Map<String, String> bodies) {
        for (String name : bodies.keySet()) {
            int deepest = depthFrom(name, bodies, new HashSet<>());
            due("rule 11: calls from " + name + " go " + deepest + " deep", deepest <= 8);
        }
    }

    /** How many calls stand open at most; a library call is one of them. Too many for recursion. */
    private static int depthFrom(String name, Map<String, String> bodies, Set<String> open) {
        if (!bodies.containsKey(name)) {
            return 1;
        }
        if (!open.add(name)) {
            return 1000;
        }
        int deepest = 0;
        Matcher call = CALL.matcher(bodies.get(name));
        while (call.find()) {
            if (!NO_CALLS.contains(call.group(1))) {
                deepest = Math.max(deepest, depthFrom(call.group(1), bodies, open));
            }
        }
        open.remove(name);
        return deepest + 1;
    }
}
