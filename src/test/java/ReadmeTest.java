import java.io.IOException;
import java.lang.reflect.Field;
import java.lang.reflect.Method;
import java.lang.reflect.Modifier;
import java.nio.file.Files;
import java.nio.file.Path;
import java.util.HashMap;
import java.util.Map;
import java.util.regex.Matcher;
import java.util.regex.Pattern;

/**
 * The examples of README.md: each line of its Java texts makes its calls, and the last one answers the number or the
 * constants ahead of the colon behind it.
 */
public final class ReadmeTest {
    private static final Pattern CALL = Pattern.compile("town\\.([a-z]+)\\(([^)]*)\\);");
    private static final Pattern DUE = Pattern.compile("// (-?[0-9]+|[A-Z]+( \\+ [A-Z]+)*)(:.*)?$");
    private static final String NEW = "WeighedWords town = new WeighedWords();";

    private static final Map<String, Method> METHODS = new HashMap<>();
    private static final Map<String, Long> CONSTANTS = new HashMap<>();
    private static WeighedWords town = new WeighedWords();
    private static int answers = 0;
    private static int wrong = 0;

    public static void main(String[] args) throws IOException, ReflectiveOperationException {
        for (Method method : WeighedWords.class.getDeclaredMethods()) {
            if (Modifier.isPublic(method.getModifiers())) {
                METHODS.put(method.getName(), method);
            }
        }
        for (Field field : WeighedWords.class.getFields()) {
            CONSTANTS.put(field.getName(), field.getLong(null));
        }
        String page = Files.readString(Path.of("README.md"));
        runExamples(page);
        checkNames(page);
        System.out.println(answers + " answers, " + wrong + " not as due");
        if (wrong != 0) {
            System.exit(1);
        }
    }

    private static void fail(String text) {
        wrong++;
        System.out.println(text);
    }

    private static void runExamples(String page) throws ReflectiveOperationException {
        boolean java = false;
        for (String line : page.split("\n")) {
            if (line.startsWith("```")) {
                java = line.equals("```java");
            } else if (java && line.startsWith(NEW)) {
                town = new WeighedWords();
            } else if (java) {
                runLine(line);
            }
        }
        if (answers == 0) {
            fail("there is no example");
        }
    }

    private static void runLine(String line) throws ReflectiveOperationException {
        Long got = null;
        Matcher call = CALL.matcher(line);
        while (call.find()) {
            got = make(call.group(1), call.group(2));
        }
        Matcher due = DUE.matcher(line);
        if (got == null || !due.find()) {
            fail("no call, or no answer: " + line);
            return;
        }
        answers++;
        if (got != valueOf(due.group(1))) {
            fail(line + " answered " + got);
        }
    }

    private static long make(String name, String list) throws ReflectiveOperationException {
        String[] texts = list.isEmpty() ? new String[0] : list.split(", ");
        Object[] values = new Object[texts.length];
        for (int i = 0; i < texts.length; i++) {
            if (texts[i].startsWith("'")) {
                values[i] = (int) texts[i].charAt(1);
            } else if (texts[i].equals("true") || texts[i].equals("false")) {
                values[i] = texts[i].equals("true");
            } else {
                values[i] = Integer.parseInt(texts[i]);
            }
        }
        return ((Number) METHODS.get(name).invoke(town, values)).longValue();
    }

    private static long valueOf(String text) {
        long sum = 0;
        for (String part : text.split(" \\+ ")) {
            sum += CONSTANTS.containsKey(part) ? CONSTANTS.get(part) : Long.parseLong(part);
        }
        return sum;
    }

    private static void checkNames(String page) {
        for (Method method : METHODS.values()) {
            Matcher call = Pattern.compile("`" + method.getName() + "\\(([a-z, ]*)\\)`").matcher(page);
            int most = -1;
            if (call.find()) {
                most = call.group(1).isEmpty() ? 0 : call.group(1).split(", ").length;
            }
            if (most != method.getParameterCount()) {
                fail("README.md does not tell " + method.getName() + " with its " + method.getParameterCount());
            }
        }
        for (String name : CONSTANTS.keySet()) {
            if (!page.contains("`" + name + "`")) {
                fail("README.md does not tell " + name);
            }
        }
    }
}
