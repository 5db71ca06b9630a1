import java.io.IOException;
import java.lang.reflect.Field;
import java.lang.reflect.Method;
import java.lang.reflect.Modifier;
import java.nio.file.Files;
import java.nio.file.Path;
import java.util.ArrayList;
import java.util.Arrays;
import java.util.List;
import java.util.Set;
import java.util.TreeSet;
import java.util.regex.Matcher;
import java.util.regex.Pattern;
import java.util.stream.Collectors;

/** The rules of LANGUAGE.md that can be read off the source. */
public final class LanguageTest {
    private static final Pattern METHOD = Pattern.compile(
        "^ +(public |private |static |final )*[A-Za-z\\[\\]]+ ([a-zA-Z]+)\\(([^)]*)\\) \\{$");
    private static int wrong = 0;

    private static void due(boolean holds, String rule) {
        if (!holds) {
            wrong++;
            System.out.println("rule " + rule);
        }
    }

    public static void main(String[] args) throws IOException {
        String source = Files.readString(Path.of("src/main/java/WeighedWords.java"));
        due(source.chars().allMatch(sign -> sign == '\n' || sign >= 32 && sign < 127), "3: signs outside 32 to 126");
        String code = source.replaceAll("(?s)/\\*.*?\\*/", "").replaceAll("//[^\n]*", "").replaceAll("'.'", "'x'");
        String[] words = {"throw", "throws", "try", "catch", "synchronized", "assert", "package", "protected", "while",
            "System.currentTimeMillis", "System.nanoTime", "Random", "Thread", "double", "float", "Object"};
        for (String word : words) {
            due(!Pattern.compile("\\b" + word + "\\b").matcher(code).find(), "6, 9 or 13: " + word);
        }
        due(!code.contains("->") && !code.contains("::"), "2: a lambda or a method reference");
        due(code.replace("import java.util.Arrays;", "").indexOf("import") < 0, "4: an import");
        due(!code.contains("\""), "10: a text");
        checkMethods(code);
        int classes = code.split("\\bclass\\b").length - 1;
        due(classes <= 12, "11: " + classes + " classes");
        checkFace();
        checkMembers();
        System.out.println(wrong == 0 ? "all rules that were looked at are kept" : wrong + " rules are not kept");
        if (wrong != 0) {
            System.exit(1);
        }
    }

    /** The public methods are those of the document's page, with the same types, and no other. */
    private static void checkFace() throws IOException {
        String page = Files.readString(Path.of("../shared/DOC.md"));
        Set<String> asked = new TreeSet<>();
        Matcher method = Pattern.compile("public (int|long) ([a-z]+)\\(([^)]*)\\);").matcher(page);
        while (method.find()) {
            String types = method.group(3).replaceAll(" [a-z]+(, |$)", " ").trim();
            asked.add((method.group(1) + " " + method.group(2) + " " + types).trim());
        }
        Set<String> there = new TreeSet<>();
        for (Method each : WeighedWords.class.getDeclaredMethods()) {
            if (Modifier.isPublic(each.getModifiers())) {
                String types = Arrays.stream(each.getParameterTypes()).map(Class::getName)
                    .collect(Collectors.joining(" "));
                there.add((each.getReturnType() + " " + each.getName() + " " + types).trim());
            } else {
                due(Modifier.isPrivate(each.getModifiers()), "1: " + each.getName() + " can be seen");
            }
        }
        due(asked.size() == 36 && asked.equals(there), "1: the face is " + there + ", asked is " + asked);
        due(WeighedWords.class.getModifiers() == (Modifier.PUBLIC | Modifier.FINAL), "1: not public and final");
        due(WeighedWords.class.getDeclaredConstructors().length == 1
            && WeighedWords.class.getConstructors().length == 1, "1: another constructor than the document's");
    }

    /** No class has more than twenty fields or a static one that changes; only the document's constants are seen. */
    private static void checkMembers() {
        Set<String> constants = Set.of("UNKNOWN", "OUTSIDE", "STATE", "FULL", "NO", "NONE", "GONE");
        for (Field field : WeighedWords.class.getDeclaredFields()) {
            boolean seen = constants.contains(field.getName());
            due(Modifier.isPublic(field.getModifiers()) == seen && (seen || Modifier.isPrivate(field.getModifiers())),
                "1: the field " + field.getName());
        }
        List<Class<?>> all = new ArrayList<>(List.of(WeighedWords.class.getDeclaredClasses()));
        for (Class<?> inside : all) {
            due(Modifier.isStatic(inside.getModifiers()) && !Modifier.isPublic(inside.getModifiers())
                && !Modifier.isProtected(inside.getModifiers()), "1 or 2: the class " + inside.getName());
        }
        all.add(WeighedWords.class);
        for (Class<?> each : all) {
            int own = 0;
            for (Field field : each.getDeclaredFields()) {
                boolean shared = Modifier.isStatic(field.getModifiers());
                due(!shared || Modifier.isFinal(field.getModifiers()), "5: the field " + field.getName());
                own += shared ? 0 : 1;
            }
            due(own <= 20, "11: " + each.getName() + " has " + own + " fields");
        }
    }

    private static void checkMethods(String code) {
        Set<String> open = new TreeSet<>();
        List<String> others = new ArrayList<>();
        String[] lines = code.split("\n");
        for (int i = 0; i < lines.length; i++) {
            Matcher matcher = METHOD.matcher(lines[i]);
            if (!matcher.matches() || lines[i].trim().startsWith("else") || lines[i].trim().startsWith("return")) {
                continue;
            }
            String name = matcher.group(2);
            if (lines[i].trim().startsWith("public")) {
                open.add(name);
            } else {
                others.add(name);
            }
            due(matcher.group(3).split(",").length <= 7, "11: parameters of " + name);
            String indent = lines[i].substring(0, lines[i].indexOf(lines[i].trim()));
            int end = i;
            while (end < lines.length && !lines[end].equals(indent + "}")) {
                end++;
            }
            due(end - i < 60, "11: " + name + " has " + (end - i) + " lines");
        }
        due(open.size() == 37, "1: " + open.size() + " public methods, with the constructor");
        for (String name : others) {
            due(!open.contains(name), "1: a method within is called " + name + " too");
        }
    }
}
