import java.io.IOException;
import java.lang.reflect.Method;
import java.lang.reflect.Modifier;
import java.nio.file.Files;
import java.nio.file.Path;
import java.util.ArrayList;
import java.util.Arrays;
import java.util.HashMap;
import java.util.List;
import java.util.Map;
import java.util.Set;
import java.util.TreeSet;
import java.util.stream.Collectors;
import java.util.stream.Stream;

/**
 * Runs the texts of src/test/edges: for each sentence of the document that names a boundary case a run on an object of
 * its own. README.md says how such a text is written.
 *
 * Each call is made twice: on an object that has had all calls before it, and on one that has had only those that
 * change something. Behind a call that is refused, or that only asks, the second one is compared with one that never
 * had the call.
 */
public final class EdgesTest {
    private static final int MOST_CALLS = 512;
    private static final Set<String> CHANGING = Set.of("terraces", "bridge", "fall", "person", "leave", "news", "learn",
        "fade", "say", "wipe", "done", "seen", "forget", "image", "restore");
    private static final Map<String, Long> NAMES = Map.of("UNKNOWN", -1L, "OUTSIDE", -2L, "STATE", -3L, "FULL", -4L,
        "NO", -5L, "NONE", -6L, "GONE", -1000000000000000000L, "MIN", (long) Integer.MIN_VALUE,
        "MAX", (long) Integer.MAX_VALUE);
    /** The refusals that the document names for each call. */
    private static final String REFUSALS = "terraces O, bridge U O, fall U, person U O, leave U, news U O, learn U, "
        + "fade O, say O F, wipe, fault, judge O N S, behind U O N S, done N S, heavy U, carries U, bent U, way U, "
        + "left U O, cried U O, floated U O, mended U O, rumour U, errands O, two U, fee U, fees U O, seen U O F, "
        + "forget, who O, fit, chance U O, year O, image O, restore O S, told O";

    private static final Map<String, Method> METHODS = new HashMap<>();
    private static final Map<String, List<String>> PRELUDES = new HashMap<>();
    private static final Set<String> REFUSED = new TreeSet<>();
    private static final Set<Integer> PROMISES = new TreeSet<>();

    private static int wrong = 0;
    private static int sentences = 0;
    private static int made = 0;

    private static String place = "";
    private static List<Object[]> history = new ArrayList<>();
    private static Used live = new Used();
    private static String asItIs;

    /** An object and how many calls it has had. */
    private static final class Used {
        final WeighedWords words = new WeighedWords();
        int calls = 0;

        long call(Object[] call) {
            calls++;
            if (calls > MOST_CALLS) {
                throw new IllegalStateException(place + ": more than " + MOST_CALLS + " calls on one object");
            }
            try {
                Object[] values = Arrays.copyOfRange(call, 1, call.length);
                return ((Number) METHODS.get((String) call[0]).invoke(words, values)).longValue();
            } catch (ReflectiveOperationException thrown) {
                throw new IllegalStateException(place + ": " + Arrays.toString(call), thrown);
            }
        }
    }

    public static void main(String[] args) throws IOException {
        for (Method method : WeighedWords.class.getDeclaredMethods()) {
            if (Modifier.isPublic(method.getModifiers())) {
                METHODS.put(method.getName(), method);
            }
        }
        List<Path> files;
        try (Stream<Path> all = Files.list(Path.of("src/test/edges"))) {
            files = all.sorted().collect(Collectors.toList());
        }
        for (Path file : files) {
            runText(file);
        }
        checkCoverage();
        System.out.println(sentences + " sentences, " + made + " calls, " + wrong + " not as due");
        if (wrong != 0) {
            System.exit(1);
        }
    }

    private static void fail(String text) {
        wrong++;
        System.out.println(place + ": " + text);
    }

    // ---- reading

    private static void runText(Path file) throws IOException {
        List<String> prelude = null;
        int number = 0;
        for (String line : Files.readAllLines(file)) {
            number++;
            if (line.isBlank() || line.startsWith("//")) {
                continue;
            }
            if (line.startsWith("let ")) {
                prelude = new ArrayList<>();
                PRELUDES.put(line.substring(4).trim(), prelude);
            } else if (line.startsWith("Promise ")) {
                PROMISES.add(Integer.parseInt(line.substring(8).trim()));
            } else if (!line.startsWith(" ")) {
                prelude = null;
                sentences++;
                place = file.getFileName() + ": " + line;
                history = new ArrayList<>();
                renew();
            } else if (prelude != null) {
                prelude.addAll(parts(line));
            } else {
                String sentence = place;
                place += " (line " + number + ")";
                for (String part : parts(line)) {
                    runPart(part);
                }
                place = sentence;
            }
        }
    }

    private static List<String> parts(String line) {
        return Arrays.stream(line.split(";")).map(String::trim).filter(part -> !part.isEmpty())
            .collect(Collectors.toList());
    }

    private static void runPart(String part) {
        if (part.startsWith("with ")) {
            for (String inner : PRELUDES.get(part.substring(5).trim())) {
                runPart(inner);
            }
            return;
        }
        String[] sides = part.split(" = ");
        Long due = sides.length < 2 ? null : sum(sides[1]);
        if (part.startsWith("day ")) {
            writeDay(sides[0].substring(4));
            return;
        }
        for (String one : spread(sides[0].trim())) {
            make(one, due);
        }
    }

    /** A text of signs; "ABa*3" stands for three times ABa. */
    private static void writeDay(String text) {
        make("wipe", null);
        for (String word : text.trim().split(" +")) {
            int star = word.indexOf('*');
            String signs = star < 0 ? word : word.substring(0, star).repeat(Integer.parseInt(word.substring(star + 1)));
            for (char sign : signs.toCharArray()) {
                make("say " + (int) sign, null);
            }
        }
    }

    private static long sum(String text) {
        long sum = 0;
        for (String word : text.trim().split(" +")) {
            sum += number(word);
        }
        return sum;
    }

    private static long number(String word) {
        return NAMES.containsKey(word) ? NAMES.get(word) : Long.parseLong(word);
    }

    /** One text for each choice from each row in braces; "2..5" in a row stands for 2 3 4 5. */
    private static List<String> spread(String text) {
        int open = text.indexOf('{');
        int close = text.indexOf('}');
        if (open < 0) {
            return List.of(text);
        }
        List<String> all = new ArrayList<>();
        for (String word : text.substring(open + 1, close).trim().split(" +")) {
            int dots = word.indexOf("..");
            long first = 0;
            long last = 0;
            if (dots > 0) {
                first = number(word.substring(0, dots));
                last = number(word.substring(dots + 2));
            }
            for (long value = first; value <= last; value++) {
                String chosen = dots > 0 ? Long.toString(value) : word;
                all.addAll(spread(text.substring(0, open) + chosen + text.substring(close + 1)));
            }
        }
        return all;
    }

    // ---- calling

    private static void make(String text, Long due) {
        String[] words = text.split(" +");
        if (!METHODS.containsKey(words[0])) {
            throw new IllegalStateException(place + ": there is no " + words[0]);
        }
        Object[] call = new Object[words.length];
        call[0] = words[0];
        for (int i = 1; i < words.length; i++) {
            boolean truth = words[i].equals("true") || words[i].equals("false");
            call[i] = truth ? (Object) Boolean.valueOf(words[i]) : (Object) Integer.valueOf((int) number(words[i]));
        }
        made++;
        if (live.calls == MOST_CALLS) {
            live = replayed();
        }
        long first = live.call(call);
        Used other = replayed();
        long second = other.call(call);
        if (first != second) {
            fail(text + " answered " + first + ", and " + second + " behind none but calls that change");
        }
        if (due == null ? first < 0 : first != due) {
            fail(text + " answered " + first + ", due is " + (due == null ? "no refusal" : due));
        }
        note(words[0], first);
        if (first >= 0 && CHANGING.contains(words[0])) {
            history.add(call);
            asItIs = null;
        } else {
            if (asItIs == null) {
                asItIs = all(replayed());
            }
            if (!all(other).equals(asItIs)) {
                fail(text + " changed something");
            }
        }
    }

    private static void renew() {
        live = new Used();
        asItIs = null;
    }

    private static Used replayed() {
        Used used = new Used();
        for (Object[] call : history) {
            used.call(call);
        }
        return used;
    }

    /** All that can be asked of the town, of the PAD, and of the towns that IMAGES keep; it is of no use behind this. */
    private static String all(Used used) {
        StringBuilder text = new StringBuilder();
        tell(used, text);
        ask(used, text, "fault");
        ask(used, text, "done");
        tell(used, text);
        for (int image = 0; image < 2; image++) {
            ask(used, text, "restore", image);
            tell(used, text);
        }
        return text.toString();
    }

    private static void tell(Used used, StringBuilder text) {
        for (int what = 0; what < 7; what++) {
            ask(used, text, "told", what);
        }
        for (int news = 0; news < 8; news++) {
            ask(used, text, "told", 10 + news);
            ask(used, text, "told", 20 + news);
        }
        for (int bridge = 0; bridge < 8; bridge++) {
            if (ask(used, text, "bent", bridge) >= 0) {
                for (int which = 0; which < 3; which++) {
                    ask(used, text, "told", 100 * (1 + bridge) + which);
                }
            }
        }
        for (int person = 0; person < 6; person++) {
            if (ask(used, text, "told", 1000 * (1 + person)) >= 0) {
                ask(used, text, "told", 1000 * (1 + person) + 1);
                ask(used, text, "told", 1000 * (1 + person) + 2);
            }
        }
        for (int sight = 0; sight < 6; sight++) {
            ask(used, text, "who", sight);
        }
        ask(used, text, "fit");
    }

    private static long ask(Used used, StringBuilder text, Object... call) {
        long answer = used.call(call);
        text.append(answer).append(' ');
        return answer;
    }

    // ---- what was looked at

    private static void note(String name, long answer) {
        long refusal = answer < NAMES.get("GONE") ? answer - NAMES.get("GONE") : answer;
        if (refusal < 0 && refusal > -6) {
            REFUSED.add(name + " " + " UOSFN".charAt((int) -refusal));
        }
    }

    /** Every promise has sentences, and every refusal that the document names was answered, and no other one. */
    private static void checkCoverage() {
        place = "all texts";
        for (int promise = 1; promise <= 37; promise++) {
            if (!PROMISES.contains(promise)) {
                fail("no sentence of promise " + promise);
            }
        }
        Set<String> named = new TreeSet<>();
        Set<String> calls = new TreeSet<>();
        for (String entry : REFUSALS.split(", ")) {
            String[] words = entry.split(" ");
            calls.add(words[0]);
            for (int i = 1; i < words.length; i++) {
                named.add(words[0] + " " + words[i]);
            }
        }
        if (!named.equals(REFUSED)) {
            fail("refusals named " + named + ", answered " + REFUSED);
        }
        if (!calls.equals(METHODS.keySet())) {
            fail("calls named " + calls + ", there are " + METHODS.keySet());
        }
    }
}
