import java.io.IOException;
import java.nio.file.Files;
import java.nio.file.Path;
import java.util.ArrayList;
import java.util.List;
import java.util.Set;
import java.util.TreeSet;
import java.util.regex.Matcher;
import java.util.regex.Pattern;

/** The rules of LANGUAGE.md that can be read off the source. */
public final class LanguageTest {
    private static final Pattern METHOD = Pattern.compile(
        "^ +(public |private |static |final )*[A-Za-z\\[\\]]+ ([a-zA-Z]+)\\(([^)]*)\\) \\{$");
    private static int wrong = 0;

    private static void due(boolean holds, String rule) {
        if (!holds) {
            wrong++;
            System.out.println("rule " + rule);
        }
    }

    public static void main(String[] args) throws IOException {
        String source = Files.readString(Path.of("src/main/java/WeighedWords.java"));
        due(source.chars().allMatch(sign -> sign == '\n' || sign >= 32 && sign < 127), "3: signs outside 32 to 126");
        String code = source.replaceAll("(?s)/\\*.*?\\*/", "").replaceAll("//[^\n]*", "").replaceAll("'.'", "'x'");
        String[] words = {"throw", "throws", "try", "catch", "synchronized", "assert", "package", "protected", "while",
            "System.currentTimeMillis", "System.nanoTime", "Random", "Thread", "double", "float", "Object"};
        for (String word : words) {
            due(!Pattern.compile("\\b" + word + "\\b").matcher(code).find(), "6, 9 or 13: " + word);
        }
        due(!code.contains("->") && !code.contains("::"), "2: a lambda or a method reference");
        due(code.replace("import java.util.Arrays;", "").indexOf("import") < 0, "4: an import");
        due(!code.contains("\""), "10: a text");
        checkMethods(code);
        int classes = code.split("\\bclass\\b").length - 1;
        due(classes <= 12, "11: " + classes + " classes");
        System.out.println(wrong == 0 ? "all rules that were looked at are kept" : wrong + " rules are not kept");
        if (wrong != 0) {
            System.exit(1);
        }
    }

    private static void checkMethods(String code) {
        Set<String> open = new TreeSet<>();
        List<String> others = new ArrayList<>();
        String[] lines = code.split("\n");
        for (int i = 0; i < lines.length; i++) {
            Matcher matcher = METHOD.matcher(lines[i]);
            if (!matcher.matches() || lines[i].trim().startsWith("else") || lines[i].trim().startsWith("return")) {
                continue;
            }
            String name = matcher.group(2);
            if (lines[i].trim().startsWith("public")) {
                open.add(name);
            } else {
                others.add(name);
            }
            due(matcher.group(3).split(",").length <= 7, "11: parameters of " + name);
            String indent = lines[i].substring(0, lines[i].indexOf(lines[i].trim()));
            int end = i;
            while (end < lines.length && !lines[end].equals(indent + "}")) {
                end++;
            }
            due(end - i < 60, "11: " + name + " has " + (end - i) + " lines");
        }
        due(open.size() == 37, "1: " + open.size() + " public methods, with the constructor");
        for (String name : others) {
            due(!open.contains(name), "1: a method within is called " + name + " too");
        }
    }
}
