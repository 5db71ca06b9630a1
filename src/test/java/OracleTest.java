import java.lang.reflect.Method;
import java.lang.reflect.Modifier;
import java.math.BigInteger;
import java.util.ArrayDeque;
import java.util.ArrayList;
import java.util.Arrays;
import java.util.Comparator;
import java.util.Deque;
import java.util.HashMap;
import java.util.List;
import java.util.Map;
import java.util.Random;
import java.util.TreeMap;
import java.util.TreeSet;

/** Runs of 512 calls by fixed draws: every answer is the one of a second, plainer writing of the document. */
public final class OracleTest {
    private static final int RUNS = 600, CALLS = 512;

    /** How each argument is drawn: its least and its most value, or 's' for signs, 'w' for what told() is asked. */
    private static final Map<String, String> ARGUMENTS = new TreeMap<>();

    static {
        String[] all = {"terraces 1:7", "bridge 0:8 t t 0:100", "fall 0:8", "person 0:6 t 0:3", "leave 0:6",
            "news 0:8 w 0:4", "learn 0:5 0:7 b", "fade 0:10", "say s", "wipe", "fault", "judge 0:5", "behind 0:5 0:3",
            "done", "heavy 0:5 0:7", "carries 0:5", "bent 0:7", "way 0:5 t -2:4", "left 0:5 t 0:2", "cried 0:5 t 0:2",
            "floated 0:5 t 0:2", "mended 0:5 t 0:2", "rumour 0:8", "errands e g -1:6", "two 0:8 t -2:6", "fee 0:5 t",
            "fees t 0:2", "seen 0:8 c", "forget", "who 0:6", "fit", "chance 0:5 t 0:11 0:2", "year 0:9999 1:100 0:3",
            "image 0:2", "restore 0:2", "told x"};
        for (String line : all) {
            ARGUMENTS.put(line.split(" ")[0], line);
        }
    }

    public static void main(String[] args) throws Exception {
        Map<String, Method> real = methodsOf(WeighedWords.class);
        Map<String, Method> plain = methodsOf(Plain.class);
        Map<Long, Integer> answers = new HashMap<>();
        int wrong = 0;
        for (int run = 0; run < RUNS && wrong < 10; run++) {
            Random random = new Random(run);
            WeighedWords x = new WeighedWords();
            Plain y = new Plain();
            Deque<Object[]> next = new ArrayDeque<>();
            buildTown(next, random);
            for (int call = 0; call < CALLS; call++) {
                if (next.isEmpty()) {
                    drawCalls(next, random, y);
                }
                Object[] values = next.remove();
                String name = (String) values[0];
                values = Arrays.copyOfRange(values, 1, values.length);
                long got = ((Number) real.get(name).invoke(x, values)).longValue();
                long want = ((Number) plain.get(name).invoke(y, values)).longValue();
                if (got != want) {
                    wrong++;
                    System.out.println("run " + run + " call " + call + ": " + name + Arrays.toString(values)
                        + " answered " + got + ", due is " + want);
                    break;
                }
                answers.merge((long) Math.signum((double) got), 1, Integer::sum);
            }
        }
        System.out.println("answers by sign: " + answers);
        if (wrong != 0) {
            System.exit(1);
        }
    }

    private static Map<String, Method> methodsOf(Class<?> type) {
        Map<String, Method> methods = new HashMap<>();
        for (Method method : type.getDeclaredMethods()) {
            if (Modifier.isPublic(method.getModifiers())) {
                method.setAccessible(true);
                methods.put(method.getName(), method);
            }
        }
        return methods;
    }

    private static void buildTown(Deque<Object[]> next, Random random) {
        int n = 2 + random.nextInt(5);
        next.add(new Object[] {"terraces", n});
        for (int person = 0; person < 6; person++) {
            if (random.nextInt(4) != 0) {
                next.add(new Object[] {"person", person, random.nextInt(n), random.nextInt(3)});
            }
        }
        int heaviest = 1 + random.nextInt(99);
        for (int bridge = 0; bridge < 8; bridge++) {
            int one = random.nextInt(n);
            int other = (one + 1 + random.nextInt(n - 1)) % n;
            if (random.nextInt(5) != 0) {
                next.add(new Object[] {"bridge", bridge, one, other, random.nextInt(1 + heaviest)});
            }
        }
        for (int news = 0; news < 8; news++) {
            int weight = random.nextInt(3) == 0 ? -random.nextInt(21) : random.nextInt(1 + heaviest);
            next.add(new Object[] {"news", news, weight, random.nextInt(4)});
        }
        for (int time = random.nextInt(20); time > 0; time--) {
            next.add(new Object[] {"learn", random.nextInt(6), random.nextInt(8), true});
        }
    }

    /** The next call, or a DAY told sign by sign and asked about. What tears the town down is rare. */
    private static void drawCalls(Deque<Object[]> next, Random random, Plain plain) {
        if (random.nextInt(25) == 0) {
            drawDay(next, random, plain);
            return;
        }
        List<String> names = new ArrayList<>(ARGUMENTS.keySet());
        List<String> rare = List.of("terraces", "leave", "fall", "person", "bridge", "news", "restore", "forget");
        String name = names.get(random.nextInt(names.size()));
        if (!rare.contains(name) || random.nextInt(10) == 0) {
            next.add(draw(name, random, plain));
        } else {
            next.add(draw(random.nextInt(3) == 0 ? "learn" : "seen", random, plain));
        }
    }

    private static void drawDay(Deque<Object[]> next, Random random, Plain plain) {
        Plain twin = plain.twin();
        StringBuilder day = new StringBuilder();
        for (int time = random.nextInt(12); time > 0; time--) {
            String step = "";
            for (int attempt = 0; attempt < 40; attempt++) {
                step = drawStep(random);
                if (twin.whyNot(step) == 0) {
                    twin.take(step);
                    break;
                }
            }
            day.append(random.nextInt(40) == 0 ? drawStep(random) : step);
        }
        next.add(new Object[] {"wipe"});
        for (char sign : day.toString().toCharArray()) {
            next.add(new Object[] {"say", (int) sign});
        }
        for (int time = random.nextInt(6); time > 0; time--) {
            next.add(random.nextBoolean() ? draw("judge", random, plain) : draw("behind", random, plain));
        }
        next.add(new Object[] {"done"});
        next.add(draw("bent", random, plain));
    }

    private static String drawStep(Random random) {
        String person = "" + (char) ('A' + random.nextInt(6));
        String news = "" + (char) ('a' + random.nextInt(8));
        switch (random.nextInt(8)) {
            case 0:
                return random.nextInt(4) == 0 ? "." : random.nextInt(4) == 0 ? "!" + news : person + "0";
            case 1: case 2: case 3: case 4:
                return person + (char) ('0' + random.nextInt(8));
            default:
                return person + (char) ('A' + random.nextInt(6)) + news;
        }
    }

    private static Object[] draw(String name, Random random, Plain plain) {
        String[] kinds = ARGUMENTS.get(name).split(" ");
        Object[] call = new Object[kinds.length];
        call[0] = name;
        for (int i = 1; i < kinds.length; i++) {
            call[i] = drawOne(kinds[i], random, plain);
        }
        return call;
    }

    private static Object drawOne(String kind, Random random, Plain plain) {
        if (kind.equals("b")) {
            return random.nextInt(5) != 0;
        }
        if (random.nextInt(60) == 0) {
            int[] wild = {Integer.MIN_VALUE, -1, -2, 6, 8, 32, 64, Integer.MAX_VALUE};
            return wild[random.nextInt(wild.length)];
        }
        switch (kind) {
            case "t":
                return random.nextInt(plain.n + (random.nextInt(20) == 0 ? 1 : 0));
            case "w":
                return random.nextInt(3) == 0 ? random.nextInt(23) - 22 : random.nextInt(random.nextInt(3) == 0 ? 101 : 40);
            case "s":
                return plain.drawSign(random);
            case "e":
                return random.nextInt(30) == 0 ? random.nextInt(70) : random.nextInt(64) & plain.told(3);
            case "g":
                return drawGoals(random, plain);
            case "c":
                return random.nextInt(3) == 0 ? 0 : random.nextInt(3) == 0 ? random.nextInt(1001)
                    : Math.max(0, plain.carries(random.nextInt(6)));
            case "x":
                int[] whats = {random.nextInt(31) - 1, 100 * (1 + random.nextInt(9)) + random.nextInt(4),
                    1000 * (1 + random.nextInt(7)) + random.nextInt(4)};
                return whats[random.nextInt(3)];
            default:
                int low = Integer.parseInt(kind.split(":")[0]);
                int high = Integer.parseInt(kind.split(":")[1]);
                return low + random.nextInt(high - low + 1);
        }
    }

    private static int drawGoals(Random random, Plain plain) {
        int goals = 0;
        int digits = random.nextInt(7);
        for (int i = 0; i < digits; i++) {
            goals = 10 * goals + random.nextInt(plain.n);
        }
        return goals;
    }

    // ---- the plainer writing

    private static final class Bridge {
        int one, other, load, bent;

        Bridge copy() {
            Bridge bridge = new Bridge();
            bridge.one = one;
            bridge.other = other;
            bridge.load = load;
            bridge.bent = bent;
            return bridge;
        }

        boolean touches(int terrace) {
            return one == terrace || other == terrace;
        }
    }

    private static final class Person {
        int place, kin;
        TreeSet<Integer> knows = new TreeSet<>();

        Person copy() {
            Person person = new Person();
            person.place = place;
            person.kin = kin;
            person.knows = new TreeSet<>(knows);
            return person;
        }
    }

    private static final class Plain {
        int n = 4, fade = 1;
        TreeMap<Integer, Bridge> bridges = new TreeMap<>();
        TreeMap<Integer, Person> people = new TreeMap<>();
        int[] weight = new int[8], about = {3, 3, 3, 3, 3, 3, 3, 3};
        TreeSet<Integer> published = new TreeSet<>();
        List<int[]> sights = new ArrayList<>();
        String pad = "";
        Plain[] images = new Plain[2];

        void take(Plain from) {
            n = from.n;
            fade = from.fade;
            bridges = new TreeMap<>();
            from.bridges.forEach((k, v) -> bridges.put(k, v.copy()));
            people = new TreeMap<>();
            from.people.forEach((k, v) -> people.put(k, v.copy()));
            weight = from.weight.clone();
            about = from.about.clone();
            published = new TreeSet<>(from.published);
            sights = new ArrayList<>(from.sights);
        }

        Plain twin() {
            Plain twin = new Plain();
            twin.take(this);
            twin.pad = pad;
            return twin;
        }

        static int bits(Iterable<Integer> places) {
            int sum = 0;
            for (int place : places) {
                sum |= 1 << place;
            }
            return sum;
        }

        boolean noTerrace(int terrace) {
            return terrace < 0 || terrace >= n;
        }

        /** A sign that can stand there, mostly. */
        int drawSign(Random random) {
            String signs = "ABCDEF01234567abcdefgh!.";
            for (int time = 0; time < 60; time++) {
                char sign = signs.charAt(random.nextInt(signs.length()));
                if (canGoOn(pad + sign)) {
                    return random.nextInt(50) == 0 ? 30 + random.nextInt(100) : sign;
                }
            }
            return '.';
        }

        public int terraces(int m) {
            if (m < 2 || m > 6) {
                return -2;
            }
            int old = n;
            Plain fresh = new Plain();
            fresh.n = m;
            fresh.fade = fade;
            take(fresh);
            return old;
        }

        public int bridge(int bridge, int one, int other, int load) {
            if (bridge < 0 || bridge > 7 || noTerrace(one) || noTerrace(other) || one == other) {
                return -1;
            }
            if (load < 0 || load > 99) {
                return -2;
            }
            Bridge made = new Bridge();
            made.one = one;
            made.other = other;
            made.load = load;
            bridges.put(bridge, made);
            return bridges.size();
        }

        public int fall(int bridge) {
            return bridges.remove(bridge) == null ? -1 : bridges.size();
        }

        public int person(int person, int terrace, int kin) {
            if (person < 0 || person > 5 || noTerrace(terrace)) {
                return -1;
            }
            if (kin < 0 || kin > 2) {
                return -2;
            }
            Person made = new Person();
            made.place = terrace;
            made.kin = kin;
            people.put(person, made);
            return people.size();
        }

        public int leave(int person) {
            return people.remove(person) == null ? -1 : people.size();
        }

        public int news(int news, int w, int kin) {
            if (news < 0 || news > 7) {
                return -1;
            }
            if (w < -20 || w > 99 || kin < 0 || kin > 3) {
                return -2;
            }
            int old = weight[news];
            weight[news] = w;
            about[news] = kin;
            published.remove(news);
            return 1000 + old;
        }

        public int learn(int person, int news, boolean knows) {
            if (!people.containsKey(person) || news < 0 || news > 7) {
                return -1;
            }
            TreeSet<Integer> known = people.get(person).knows;
            if (knows) {
                known.add(news);
            } else {
                known.remove(news);
            }
            return bits(known);
        }

        public int fade(int v) {
            if (v < 0 || v > 9) {
                return -2;
            }
            int old = fade;
            fade = v;
            return old;
        }

        public int say(int sign) {
            if (sign < 33 || sign > 126) {
                return -2;
            }
            if (pad.length() == 60) {
                return -4;
            }
            pad += (char) sign;
            return pad.length();
        }

        public int wipe() {
            int old = pad.length();
            pad = "";
            return old;
        }

        static boolean whole(String text) {
            return text.matches("([A-F][A-F][a-h]|[A-F][0-7]|![a-h]|[.])*");
        }

        static boolean canGoOn(String text) {
            return whole(text) || whole(text + "a") || whole(text + "0");
        }

        public int fault() {
            for (int i = 1; i <= pad.length(); i++) {
                if (!canGoOn(pad.substring(0, i))) {
                    return i - 1;
                }
            }
            return whole(pad) ? -6 : pad.length();
        }

        List<String> steps() {
            List<String> steps = new ArrayList<>();
            for (String part : pad.split("(?<=[a-h0-7.])")) {
                if (!part.isEmpty()) {
                    steps.add(part);
                }
            }
            return steps;
        }

        int whyNot(String step) {
            List<Integer> reasons = new ArrayList<>();
            char last = step.charAt(step.length() - 1);
            Person first = people.get(step.charAt(0) - 'A');
            if (step.length() == 3) {
                Person second = people.get(step.charAt(1) - 'A');
                if (first == null || second == null) {
                    return 1;
                }
                if (!first.knows.contains(last - 'a')) {
                    reasons.add(3);
                }
                if (second.knows.contains(last - 'a')) {
                    reasons.add(4);
                }
                if (first == second || first.place != second.place) {
                    reasons.add(2);
                }
            } else if (step.startsWith("!") && published.contains(last - 'a')) {
                reasons.add(8);
            } else if (step.length() == 2 && !step.startsWith("!")) {
                if (first == null) {
                    return 1;
                }
                Bridge bridge = bridges.get(last - '0');
                if (bridge == null) {
                    return 5;
                }
                if (carries(step.charAt(0) - 'A') > bridge.load) {
                    reasons.add(7);
                }
                if (!bridge.touches(first.place)) {
                    reasons.add(6);
                }
            }
            return reasons.stream().min(Comparator.naturalOrder()).orElse(0);
        }

        void take(String step) {
            char last = step.charAt(step.length() - 1);
            if (step.equals(".")) {
                for (int i = 0; i < 8; i++) {
                    weight[i] = weight[i] <= 0 ? weight[i] : Math.max(0, weight[i] - fade);
                }
            } else if (step.startsWith("!")) {
                published.add(last - 'a');
            } else if (step.length() == 3) {
                people.get(step.charAt(1) - 'A').knows.add(last - 'a');
            } else {
                Bridge bridge = bridges.get(last - '0');
                int person = step.charAt(0) - 'A';
                bridge.bent = Math.max(bridge.bent, carries(person));
                people.get(person).place = bridge.one + bridge.other - people.get(person).place;
            }
        }

        public int judge(int what) {
            if (what < 0 || what > 4) {
                return -2;
            }
            if (fault() != -6) {
                return -5;
            }
            Plain twin = twin();
            int[] counts = new int[5];
            int number = 0;
            for (String step : steps()) {
                int why = twin.whyNot(step);
                if (why != 0) {
                    return what == 0 ? number : what == 1 ? why : -3;
                }
                twin.take(step);
                number++;
                counts[step.length() == 3 ? 2 : step.equals(".") ? 4 : step.startsWith("!") ? 0 : 3]++;
            }
            return what < 2 ? -6 : counts[what];
        }

        public int behind(int person, int what) {
            if (!people.containsKey(person)) {
                return -1;
            }
            if (what < 0 || what > 2) {
                return -2;
            }
            if (judge(2) < 0) {
                return judge(2);
            }
            Plain twin = twin();
            steps().forEach(twin::take);
            return what == 0 ? twin.people.get(person).place : what == 1 ? twin.carries(person)
                : bits(twin.people.get(person).knows);
        }

        public int done() {
            if (judge(2) < 0) {
                return judge(2);
            }
            List<String> steps = steps();
            steps.forEach(this::take);
            pad = "";
            return steps.size();
        }

        int knowers(int news) {
            int count = 0;
            for (Person person : people.values()) {
                count += person.knows.contains(news) ? 1 : 0;
            }
            return count;
        }

        int pounds(Person person, int news) {
            if (published.contains(news)) {
                return 0;
            }
            return weight[news] * (person.kin == about[news] ? 2 : 1) / knowers(news);
        }

        public int heavy(int person, int news) {
            if (!people.containsKey(person) || news < 0 || news > 7) {
                return -1;
            }
            return people.get(person).knows.contains(news) ? 1000 + pounds(people.get(person), news) : -6;
        }

        int sum(Person person) {
            int sum = 0;
            for (int news : person.knows) {
                sum += pounds(person, news);
            }
            return sum;
        }

        public int carries(int person) {
            return people.containsKey(person) ? Math.max(0, sum(people.get(person))) : -1;
        }

        public int bent(int bridge) {
            return bridges.containsKey(bridge) ? bridges.get(bridge).bent : -1;
        }

        /** All ways that come to no TERRACE twice; the best of them, or null. */
        List<Integer> bestWay(int from, int to, int pounds, TreeSet<Integer> allowed) {
            List<List<Integer>> found = new ArrayList<>();
            walk(from, to, pounds, allowed, new ArrayList<>(), new TreeSet<>(List.of(from)), found);
            List<Integer> best = null;
            for (List<Integer> one : found) {
                if (best == null || one.size() < best.size()
                        || one.size() == best.size() && one.toString().compareTo(best.toString()) < 0) {
                    best = one;
                }
            }
            return best;
        }

        private void walk(int place, int to, int pounds, TreeSet<Integer> allowed, List<Integer> gone,
                TreeSet<Integer> visited, List<List<Integer>> found) {
            if (place == to) {
                found.add(new ArrayList<>(gone));
                return;
            }
            for (int number : allowed) {
                Bridge bridge = bridges.get(number);
                if (bridge.load >= pounds && bridge.touches(place)) {
                    int next = bridge.one + bridge.other - place;
                    if (visited.add(next)) {
                        gone.add(number);
                        walk(next, to, pounds, allowed, gone, visited, found);
                        gone.remove(gone.size() - 1);
                        visited.remove(next);
                    }
                }
            }
        }

        List<Integer> wayOf(int person, int terrace) {
            return bestWay(people.get(person).place, terrace, carries(person), new TreeSet<>(bridges.keySet()));
        }

        public int way(int person, int terrace, int i) {
            if (!people.containsKey(person) || noTerrace(terrace)) {
                return -1;
            }
            List<Integer> way = wayOf(person, terrace);
            if (way == null || i < -1 || i >= way.size()) {
                return -6;
            }
            return i == -1 ? way.size() : way.get(i);
        }

        private interface Change {
            boolean make(Plain town, Person person, int news);
        }

        private int least(int person, int terrace, int what, Change change) {
            if (!people.containsKey(person) || noTerrace(terrace)) {
                return -1;
            }
            if (what < 0 || what > 1) {
                return -2;
            }
            for (int count = 0; count <= 8; count++) {
                for (int bits = 0; bits < 256; bits++) {
                    if (Integer.bitCount(bits) == count) {
                        Plain twin = twin();
                        boolean can = true;
                        for (int news = 0; news < 8; news++) {
                            if ((bits & 1 << news) != 0) {
                                can &= change.make(twin, twin.people.get(person), news);
                            }
                        }
                        if (can && twin.wayOf(person, terrace) != null) {
                            return what == 0 ? count : bits;
                        }
                    }
                }
            }
            return -6;
        }

        public int left(int person, int terrace, int what) {
            // Who forgets is to be counted no more, but for others alone, of whom nothing is asked.
            return least(person, terrace, what, (town, who, news) -> who.knows.remove(news));
        }

        public int cried(int person, int terrace, int what) {
            return least(person, terrace, what, (town, who, news) -> town.published.add(news));
        }

        public int floated(int person, int terrace, int what) {
            return least(person, terrace, what, (town, who, news) ->
                town.weight[news] < 0 && !town.published.contains(news) && who.knows.add(news));
        }

        public int mended(int person, int terrace, int what) {
            if (!people.containsKey(person) || noTerrace(terrace)) {
                return -1;
            }
            if (what < 0 || what > 1) {
                return -2;
            }
            if (wayOf(person, terrace) != null) {
                return -6;
            }
            int best = -6;
            int lacks = Integer.MAX_VALUE;
            for (int number : bridges.keySet()) {
                Plain twin = twin();
                twin.bridges.get(number).load = 100000;
                int lack = carries(person) - bridges.get(number).load;
                if (twin.wayOf(person, terrace) != null && lack < lacks) {
                    best = number;
                    lacks = lack;
                }
            }
            return best == -6 ? -6 : what == 0 ? best : lacks;
        }

        public int rumour(int news) {
            if (news < 0 || news > 7) {
                return -1;
            }
            Plain twin = twin();
            while (true) {
                TreeSet<Integer> know = new TreeSet<>();
                TreeSet<Integer> told = new TreeSet<>();
                for (int person : people.keySet()) {
                    if (twin.people.get(person).knows.contains(news)) {
                        know.add(person);
                        for (int other : people.keySet()) {
                            if (twin.wayOf(person, twin.people.get(other).place) != null) {
                                told.add(other);
                            }
                        }
                    }
                }
                if (know.equals(told)) {
                    return bits(know);
                }
                told.forEach(person -> twin.people.get(person).knows.add(news));
            }
        }

        public int errands(int set, int goals, int i) {
            if (set < 0 || (set & told(3)) != set || goals < 0) {
                return -2;
            }
            List<Integer> who = new ArrayList<>();
            for (int person = 0; person < 6; person++) {
                if ((set & 1 << person) != 0) {
                    who.add(person);
                }
            }
            String digits = goals == 0 ? "" : "" + goals;
            if (digits.length() > who.size()) {
                return -2;
            }
            digits = "0".repeat(who.size() - digits.length()) + digits;
            Map<Integer, Integer> goal = new HashMap<>();
            for (int k = 0; k < who.size(); k++) {
                if (noTerrace(digits.charAt(k) - '0')) {
                    return -2;
                }
                goal.put(who.get(k), digits.charAt(k) - '0');
            }
            for (List<Integer> order : orders(who)) {
                if (canAll(order, goal)) {
                    return i < 0 || i >= order.size() ? -6 : order.get(i);
                }
            }
            return -6;
        }

        static List<List<Integer>> orders(List<Integer> who) {
            if (who.isEmpty()) {
                return List.of(List.of());
            }
            List<List<Integer>> all = new ArrayList<>();
            for (Integer first : who) {
                List<Integer> rest = new ArrayList<>(who);
                rest.remove(first);
                for (List<Integer> order : orders(rest)) {
                    List<Integer> longer = new ArrayList<>(List.of(first));
                    longer.addAll(order);
                    all.add(longer);
                }
            }
            return all;
        }

        boolean canAll(List<Integer> order, Map<Integer, Integer> goal) {
            Plain twin = twin();
            for (int person : order) {
                if (twin.wayOf(person, goal.get(person)) == null) {
                    return false;
                }
                Person comer = twin.people.get(person);
                comer.place = goal.get(person);
                for (Person other : twin.people.values()) {
                    if (other.place == comer.place) {
                        other.knows.addAll(comer.knows);
                    }
                }
            }
            return true;
        }

        boolean comes(int person, int terrace, int part) {
            Person who = people.get(person);
            return bestWay(who.place, terrace, Math.max(0, carries(person) + part), new TreeSet<>(bridges.keySet())) != null;
        }

        public int two(int news, int terrace, int i) {
            if (news < 0 || news > 7 || noTerrace(terrace)) {
                return -1;
            }
            int lesser = (int) Math.floor(weight[news] / 2.0);
            List<Integer> twos = new ArrayList<>();
            for (int first : people.keySet()) {
                for (int second : people.keySet()) {
                    if (first < second && comes(first, terrace, lesser) && comes(second, terrace, weight[news] - lesser)) {
                        twos.add(10 * first + second);
                    }
                }
            }
            return i == -1 ? twos.size() : i >= 0 && i < twos.size() ? twos.get(i) : -6;
        }

        public int fee(int person, int terrace) {
            if (!people.containsKey(person) || noTerrace(terrace)) {
                return -1;
            }
            List<Integer> way = wayOf(person, terrace);
            return way == null ? -6 : carries(person) * way.size();
        }

        public int fees(int terrace, int what) {
            if (noTerrace(terrace)) {
                return -1;
            }
            if (what < 0 || what > 1) {
                return -2;
            }
            int[] sums = new int[2];
            for (int person : people.keySet()) {
                if (fee(person, terrace) >= 0) {
                    sums[0] += fee(person, terrace);
                    sums[1]++;
                }
            }
            return sums[what];
        }

        public int seen(int bridge, int v) {
            if (bridge < 0 || bridge > 7) {
                return -1;
            }
            if (v < 0 || v > 999) {
                return -2;
            }
            if (sights.size() == 6) {
                return -4;
            }
            sights.add(new int[] {bridge, v});
            return sights.size();
        }

        public int forget() {
            int old = sights.size();
            sights.clear();
            return old;
        }

        public int who(int sight) {
            if (sight < 0 || sight >= sights.size()) {
                return -2;
            }
            TreeSet<Integer> who = new TreeSet<>(people.keySet());
            who.removeIf(person -> carries(person) != sights.get(sight)[1]);
            return bits(who);
        }

        public int fit() {
            return give(0, new ArrayList<>());
        }

        private int give(int sight, List<Integer> given) {
            if (sight == sights.size()) {
                return 1;
            }
            int ways = 0;
            for (int person : people.keySet()) {
                boolean can = (who(sight) & 1 << person) != 0;
                for (int before = 0; before < sight; before++) {
                    can &= given.get(before) != person || sights.get(before)[0] != sights.get(sight)[0];
                }
                if (can) {
                    given.add(person);
                    ways += give(sight + 1, given);
                    given.remove(sight);
                }
            }
            return ways;
        }

        public long chance(int person, int terrace, int t, int part) {
            if (!people.containsKey(person) || noTerrace(terrace)) {
                return -1000000000000000001L;
            }
            if (t < 0 || t > 10 || part < 0 || part > 1) {
                return -1000000000000000002L;
            }
            List<Integer> all = new ArrayList<>(bridges.keySet());
            BigInteger upper = BigInteger.ZERO;
            for (int bits = 0; bits < 1 << all.size(); bits++) {
                TreeSet<Integer> hold = new TreeSet<>();
                BigInteger product = BigInteger.ONE;
                for (int k = 0; k < all.size(); k++) {
                    boolean holds = (bits & 1 << k) != 0;
                    product = product.multiply(BigInteger.valueOf(holds ? t : 10 - t));
                    if (holds) {
                        hold.add(all.get(k));
                    }
                }
                if (bestWay(people.get(person).place, terrace, carries(person), hold) != null) {
                    upper = upper.add(product);
                }
            }
            BigInteger lower = BigInteger.TEN.pow(all.size());
            BigInteger divisor = upper.gcd(lower);
            return (part == 0 ? upper : lower).divide(divisor).longValueExact();
        }

        public int year(int seed, int m, int what) {
            if (seed < 0 || seed > 9999 || m < 1 || m > 99 || what < 0 || what > 2) {
                return -2;
            }
            Plain twin = twin();
            long x = seed;
            int tellings = 0;
            for (int turn = 1; turn <= m; turn++) {
                x = (75 * x + 74) % 65537;
                String step = "" + (char) ('A' + x % 6) + (char) ('A' + x / 6 % 6) + (char) ('a' + x / 36 % 8);
                if (twin.whyNot(step) == 0) {
                    twin.take(step);
                    tellings++;
                }
                if (turn % 7 == 0) {
                    twin.take(".");
                }
            }
            int most = 0;
            for (int person : people.keySet()) {
                most = Math.max(most, twin.carries(person));
            }
            int know = 0;
            for (int news = 0; news < 8; news++) {
                know = Math.max(know, twin.knowers(news));
            }
            return what == 0 ? tellings : what == 1 ? most : know;
        }

        public int image(int number) {
            if (number < 0 || number > 1) {
                return -2;
            }
            images[number] = twin();
            return 1;
        }

        public int restore(int number) {
            if (number < 0 || number > 1) {
                return -2;
            }
            if (images[number] == null) {
                return -3;
            }
            take(images[number]);
            return 1;
        }

        public int told(int what) {
            int[] few = {pad.length(), n, bits(bridges.keySet()), bits(people.keySet()), fade, sights.size(),
                bits(published)};
            if (what >= 0 && what < few.length) {
                return few[what];
            }
            if (what >= 10 && what < 18) {
                return 1000 + weight[what - 10];
            }
            if (what >= 20 && what < 28) {
                return about[what - 20];
            }
            for (int number : bridges.keySet()) {
                Bridge bridge = bridges.get(number);
                int[] tells = {bridge.load, Math.min(bridge.one, bridge.other), Math.max(bridge.one, bridge.other)};
                for (int k = 0; k < 3; k++) {
                    if (what == 100 * (1 + number) + k) {
                        return tells[k];
                    }
                }
            }
            for (int number : people.keySet()) {
                Person person = people.get(number);
                int[] tells = {person.place, person.kin, bits(person.knows)};
                for (int k = 0; k < 3; k++) {
                    if (what == 1000 * (1 + number) + k) {
                        return tells[k];
                    }
                }
            }
            return -2;
        }
    }
}
