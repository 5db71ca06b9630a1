import java.util.Arrays;

/** A gorge town in which words have pounds; README.md says how to use it. */
public final class WeighedWords {
    public static final int UNKNOWN = -1, OUTSIDE = -2, STATE = -3, FULL = -4, NO = -5, NONE = -6;
    public static final long GONE = -1000000000000000000L;

    private static final int BRIDGES = 8, PEOPLE = 6, NEWS = 8, SIGHTS = 6, SIGNS = 60, IMAGES = 2;
    private static final int LEAST_TERRACES = 2, MOST_TERRACES = 6, FIRST_TERRACES = 4;
    private static final int MOST_LOAD = 99, LEAST_WEIGHT = -20, MOST_WEIGHT = 99, MOST_BEND = 999;
    private static final int MOST_KIN = 2, NOBODY = 3, MOST_FADE = 9, FIRST_FADE = 1;
    private static final int FIRST_SIGN = 33, LAST_SIGN = 126, TENTHS = 10;
    private static final int MOST_SEED = 9999, MOST_TURNS = 99, WEEK = 7;
    /** What is put upon WEIGHTS, so that LIES are not taken for refusals. */
    private static final int LIFT = 1000;

    private final Town now;
    /** What only might be is tried here, so that no call needs a town of its own. */
    private final Town trial;
    /** What was kept; null, where nothing was. */
    private final Town[] images;
    private final Pad pad;
    private final Day day;
    private final Orders orders;

    public WeighedWords() {
        now = new Town();
        trial = new Town();
        images = new Town[IMAGES];
        pad = new Pad();
        day = new Day();
        orders = new Orders();
    }

    // ---- 1 towns, people, news

    public int terraces(int n) {
        if (!within(n, LEAST_TERRACES, MOST_TERRACES)) {
            return OUTSIDE;
        }
        int before = now.size;
        now.settle(n);
        return before;
    }

    public int bridge(int bridge, int one, int other, int load) {
        if (!within(bridge, 0, BRIDGES - 1) || !now.hasTerrace(one) || !now.hasTerrace(other) || one == other) {
            return UNKNOWN;
        }
        if (!within(load, 0, MOST_LOAD)) {
            return OUTSIDE;
        }
        now.bridges |= 1 << bridge;
        now.lesserEnds[bridge] = Math.min(one, other);
        now.greaterEnds[bridge] = Math.max(one, other);
        now.loads[bridge] = load;
        now.bends[bridge] = 0;
        return Integer.bitCount(now.bridges);
    }

    public int fall(int bridge) {
        if (!now.hasBridge(bridge)) {
            return UNKNOWN;
        }
        now.bridges &= ~(1 << bridge);
        return Integer.bitCount(now.bridges);
    }

    public int person(int person, int terrace, int kin) {
        if (!within(person, 0, PEOPLE - 1) || !now.hasTerrace(terrace)) {
            return UNKNOWN;
        }
        if (!within(kin, 0, MOST_KIN)) {
            return OUTSIDE;
        }
        now.people |= 1 << person;
        now.places[person] = terrace;
        now.kins[person] = kin;
        now.known[person] = 0;
        return Integer.bitCount(now.people);
    }

    public int leave(int person) {
        if (!now.hasPerson(person)) {
            return UNKNOWN;
        }
        now.people &= ~(1 << person);
        now.known[person] = 0;
        return Integer.bitCount(now.people);
    }

    public int news(int news, int weight, int kin) {
        if (!isNews(news)) {
            return UNKNOWN;
        }
        if (!within(weight, LEAST_WEIGHT, MOST_WEIGHT) || !within(kin, 0, NOBODY)) {
            return OUTSIDE;
        }
        int before = now.weights[news];
        now.weights[news] = weight;
        now.abouts[news] = kin;
        now.published &= ~(1 << news);
        return before + LIFT;
    }

    public int learn(int person, int news, boolean knows) {
        if (!now.hasPerson(person) || !isNews(news)) {
            return UNKNOWN;
        }
        if (knows) {
            now.known[person] |= 1 << news;
        } else {
            now.known[person] &= ~(1 << news);
        }
        return now.known[person];
    }

    public int fade(int v) {
        if (!within(v, 0, MOST_FADE)) {
            return OUTSIDE;
        }
        int before = now.fading;
        now.fading = v;
        return before;
    }

    public int say(int sign) {
        if (!within(sign, FIRST_SIGN, LAST_SIGN)) {
            return OUTSIDE;
        }
        if (pad.count >= SIGNS) {
            return FULL;
        }
        pad.signs[pad.count] = sign;
        pad.count++;
        return pad.count;
    }

    public int wipe() {
        int before = pad.count;
        pad.count = 0;
        return before;
    }

    public int fault() {
        return pad.faultPlace();
    }

    // ---- 2 days

    public int judge(int what) {
        if (!within(what, 0, 4)) {
            return OUTSIDE;
        }
        day.live(pad, now, trial);
        if (day.refusal == NO || day.refusal == STATE && what >= 2) {
            return day.refusal;
        }
        switch (what) {
            case 0:
                return day.refusal == STATE ? day.steps : NONE;
            case 1:
                return day.refusal == STATE ? day.reason : NONE;
            case 2:
                return day.tellings;
            case 3:
                return day.crossings;
            default:
                return day.nights;
        }
    }

    public int behind(int person, int what) {
        if (!now.hasPerson(person)) {
            return UNKNOWN;
        }
        if (!within(what, 0, 2)) {
            return OUTSIDE;
        }
        day.live(pad, now, trial);
        if (day.refusal != 0) {
            return day.refusal;
        }
        switch (what) {
            case 0:
                return trial.places[person];
            case 1:
                return trial.burden(person);
            default:
                return trial.known[person];
        }
    }

    public int done() {
        day.live(pad, now, trial);
        if (day.refusal != 0) {
            return day.refusal;
        }
        now.copy(trial);
        pad.count = 0;
        return day.steps;
    }

    public int heavy(int person, int news) {
        if (!now.hasPerson(person) || !isNews(news)) {
            return UNKNOWN;
        }
        return has(now.known[person], news) ? now.weightFor(person, news) + LIFT : NONE;
    }

    public int carries(int person) {
        return now.hasPerson(person) ? now.burden(person) : UNKNOWN;
    }

    public int bent(int bridge) {
        return now.hasBridge(bridge) ? now.bends[bridge] : UNKNOWN;
    }

    // ---- 3 ways

    public int way(int person, int terrace, int i) {
        if (!now.hasPerson(person) || !now.hasTerrace(terrace)) {
            return UNKNOWN;
        }
        int open = now.bearing(now.burden(person));
        int from = now.places[person];
        return i == -1 ? now.distance(from, terrace, open) : now.bridgeOfWay(from, terrace, open, i);
    }

    public int left(int person, int terrace, int what) {
        int refusal = refuseTrip(person, terrace, what);
        return refusal != 0 ? refusal : countOrBits(fewest(person, terrace, now.known[person]), what);
    }

    /**
     * What is PUBLISHED is 0 for the PERSON, as if it had forgotten it; and of all eight NEWS those that it does
     * not KNOW can not help, so that the fewest are among those that it KNOWS.
     */
    public int cried(int person, int terrace, int what) {
        int refusal = refuseTrip(person, terrace, what);
        return refusal != 0 ? refusal : countOrBits(fewest(person, terrace, now.known[person]), what);
    }

    public int floated(int person, int terrace, int what) {
        int refusal = refuseTrip(person, terrace, what);
        if (refusal != 0) {
            return refusal;
        }
        int lies = now.lies() & ~now.published & ~now.known[person];
        return countOrBits(fewest(person, terrace, lies), what);
    }

    public int mended(int person, int terrace, int what) {
        int refusal = refuseTrip(person, terrace, what);
        if (refusal != 0) {
            return refusal;
        }
        int burden = now.burden(person);
        int weakest = weakestBridge(now.places[person], terrace, burden);
        if (weakest == NONE) {
            return NONE;
        }
        return what == 0 ? weakest : burden - now.loads[weakest];
    }

    public int rumour(int news) {
        if (!isNews(news)) {
            return UNKNOWN;
        }
        trial.copy(now);
        // Every round but the last tells somebody more, so that there are no more rounds than PEOPLE and one.
        for (int round = 0; round <= PEOPLE; round++) {
            int hearers = trial.hearers(news);
            if (hearers == 0) {
                break;
            }
            trial.tellAll(hearers, 1 << news);
        }
        return trial.knowersOf(news);
    }

    public int errands(int set, int goals, int i) {
        if ((set & ~now.people) != 0 || !orders.readGoals(set, goals, now.size)) {
            return OUTSIDE;
        }
        if (!within(i, 0, Integer.bitCount(set) - 1)) {
            return NONE;
        }
        trial.copy(now);
        return findOrder(orders, trial, set, 0) ? orders.order[i] : NONE;
    }

    // ---- 4 halves, fees, rails

    public int two(int news, int terrace, int i) {
        if (!isNews(news) || !now.hasTerrace(terrace)) {
            return UNKNOWN;
        }
        int lesser = Math.floorDiv(now.weights[news], 2);
        int firsts = arrivers(terrace, lesser);
        int seconds = arrivers(terrace, now.weights[news] - lesser);
        int count = 0;
        for (int first = 0; first < PEOPLE; first++) {
            for (int second = first + 1; second < PEOPLE; second++) {
                if (has(firsts, first) && has(seconds, second)) {
                    if (count == i) {
                        return 10 * first + second;
                    }
                    count++;
                }
            }
        }
        return i == -1 ? count : NONE;
    }

    public int fee(int person, int terrace) {
        if (!now.hasPerson(person) || !now.hasTerrace(terrace)) {
            return UNKNOWN;
        }
        return feeOf(person, terrace);
    }

    public int fees(int terrace, int what) {
        if (!now.hasTerrace(terrace)) {
            return UNKNOWN;
        }
        if (!within(what, 0, 1)) {
            return OUTSIDE;
        }
        int sum = 0;
        int count = 0;
        for (int person = 0; person < PEOPLE; person++) {
            int pounds = now.hasPerson(person) ? feeOf(person, terrace) : NONE;
            if (pounds != NONE) {
                sum += pounds;
                count++;
            }
        }
        return what == 0 ? sum : count;
    }

    public int seen(int bridge, int v) {
        if (!within(bridge, 0, BRIDGES - 1)) {
            return UNKNOWN;
        }
        if (!within(v, 0, MOST_BEND)) {
            return OUTSIDE;
        }
        if (now.sights >= SIGHTS) {
            return FULL;
        }
        now.sightBridges[now.sights] = bridge;
        now.sightBends[now.sights] = v;
        now.sights++;
        return now.sights;
    }

    public int forget() {
        int before = now.sights;
        now.sights = 0;
        return before;
    }

    public int who(int sight) {
        return within(sight, 0, now.sights - 1) ? now.carriersOf(now.sightBends[sight]) : OUTSIDE;
    }

    /**
     * A PERSON CARRIES but one number, so that it can stand twice on one BRIDGE only where two SIGHTS tell the same
     * bend of it: each of these finds one PERSON fewer than the one before it.
     */
    public int fit() {
        int ways = 1;
        for (int sight = 0; sight < now.sights; sight++) {
            int free = Integer.bitCount(now.carriersOf(now.sightBends[sight])) - now.likeSightsBefore(sight);
            ways *= Math.max(0, free);
        }
        return ways;
    }

    public long chance(int person, int terrace, int t, int part) {
        if (!now.hasPerson(person) || !now.hasTerrace(terrace)) {
            return GONE + UNKNOWN;
        }
        if (!within(t, 0, TENTHS) || !within(part, 0, 1)) {
            return GONE + OUTSIDE;
        }
        int open = now.bearing(now.burden(person));
        long upper = 0;
        for (int holding = 0; holding < 1 << BRIDGES; holding++) {
            if ((holding & ~open) == 0 && now.distance(now.places[person], terrace, holding) != NONE) {
                int holds = Integer.bitCount(holding);
                upper += power(t, holds) * power(TENTHS - t, Integer.bitCount(open) - holds);
            }
        }
        long lower = power(TENTHS, Integer.bitCount(open));
        long divisor = commonDivisor(upper, lower);
        return (part == 0 ? upper : lower) / Math.max(1, divisor);
    }

    public int year(int seed, int m, int what) {
        if (!within(seed, 0, MOST_SEED) || !within(m, 1, MOST_TURNS) || !within(what, 0, 2)) {
            return OUTSIDE;
        }
        trial.copy(now);
        int tellings = 0;
        int x = seed;
        for (int turn = 1; turn <= m; turn++) {
            x = (75 * x + 74) % 65537;
            if (trial.tellIfItCanBe(x % 6, x / 6 % 6, x / 36 % 8) == 0) {
                tellings++;
            }
            if (turn % WEEK == 0) {
                trial.passNight();
            }
        }
        switch (what) {
            case 0:
                return tellings;
            case 1:
                return trial.mostBurden();
            default:
                return trial.mostKnowers();
        }
    }

    public int image(int n) {
        if (!within(n, 0, IMAGES - 1)) {
            return OUTSIDE;
        }
        if (images[n] == null) {
            images[n] = new Town();
        }
        images[n].copy(now);
        return 1;
    }

    public int restore(int n) {
        if (!within(n, 0, IMAGES - 1)) {
            return OUTSIDE;
        }
        if (images[n] == null) {
            return STATE;
        }
        now.copy(images[n]);
        return 1;
    }

    public int told(int what) {
        if (within(what, 10, 10 + NEWS - 1)) {
            return now.weights[what - 10] + LIFT;
        }
        if (within(what, 20, 20 + NEWS - 1)) {
            return now.abouts[what - 20];
        }
        if (what >= 1000) {
            return tellPerson(what / 1000 - 1, what % 1000);
        }
        if (what >= 100) {
            return tellBridge(what / 100 - 1, what % 100);
        }
        switch (what) {
            case 0:
                return pad.count;
            case 1:
                return now.size;
            case 2:
                return now.bridges;
            case 3:
                return now.people;
            case 4:
                return now.fading;
            case 5:
                return now.sights;
            case 6:
                return now.published;
            default:
                return OUTSIDE;
        }
    }

    // ---- what the calls share

    private static boolean within(int v, int least, int most) {
        return v >= least && v <= most;
    }

    private static boolean has(int bits, int place) {
        return (bits >> place & 1) == 1;
    }

    private static boolean isNews(int news) {
        return within(news, 0, NEWS - 1);
    }

    /** The refusals that the calls about one trip and a choice of two answers have in common; 0: none. */
    private int refuseTrip(int person, int terrace, int what) {
        if (!now.hasPerson(person) || !now.hasTerrace(terrace)) {
            return UNKNOWN;
        }
        return within(what, 0, 1) ? 0 : OUTSIDE;
    }

    private static int countOrBits(int bits, int what) {
        return bits == NONE || what == 1 ? bits : Integer.bitCount(bits);
    }

    /** Of the NEWS to choose from the fewest, then least as bits, that make a WAY if KNOWING them turns about. */
    private int fewest(int person, int terrace, int choice) {
        int best = NONE;
        for (int bits = 0; bits < 1 << NEWS; bits++) {
            boolean fewer = best == NONE || Integer.bitCount(bits) < Integer.bitCount(best);
            if (fewer && (bits & ~choice) == 0) {
                int burden = Math.max(0, now.sum(person, now.known[person] ^ bits));
                if (now.distance(now.places[person], terrace, now.bearing(burden)) != NONE) {
                    best = bits;
                }
            }
        }
        return best;
    }

    private int weakestBridge(int from, int to, int burden) {
        int open = now.bearing(burden);
        if (now.distance(from, to, open) != NONE) {
            return NONE;
        }
        int best = NONE;
        for (int bridge = 0; bridge < BRIDGES; bridge++) {
            boolean lacksFewer = best == NONE || now.loads[bridge] > now.loads[best];
            if (now.hasBridge(bridge) && lacksFewer && now.distance(from, to, open | 1 << bridge) != NONE) {
                best = bridge;
            }
        }
        return best;
    }

    /** The PEOPLE, as bits, who have a WAY to a TERRACE with so many pounds besides. */
    private int arrivers(int terrace, int besides) {
        int bits = 0;
        for (int person = 0; person < PEOPLE; person++) {
            if (now.hasPerson(person)) {
                int burden = Math.max(0, now.burden(person) + besides);
                if (now.distance(now.places[person], terrace, now.bearing(burden)) != NONE) {
                    bits |= 1 << person;
                }
            }
        }
        return bits;
    }

    private int feeOf(int person, int terrace) {
        int burden = now.burden(person);
        int length = now.distance(now.places[person], terrace, now.bearing(burden));
        return length == NONE ? NONE : burden * length;
    }

    private int tellBridge(int bridge, int which) {
        if (!now.hasBridge(bridge)) {
            return OUTSIDE;
        }
        switch (which) {
            case 0:
                return now.loads[bridge];
            case 1:
                return now.lesserEnds[bridge];
            case 2:
                return now.greaterEnds[bridge];
            default:
                return OUTSIDE;
        }
    }

    private int tellPerson(int person, int which) {
        if (!now.hasPerson(person)) {
            return OUTSIDE;
        }
        switch (which) {
            case 0:
                return now.places[person];
            case 1:
                return now.kins[person];
            case 2:
                return now.known[person];
            default:
                return OUTSIDE;
        }
    }

    private static long power(int base, int exponent) {
        long product = 1;
        for (int i = 0; i < exponent; i++) {
            product *= base;
        }
        return product;
    }

    private static long commonDivisor(long upper, long lower) {
        long one = upper;
        long other = lower;
        // Each division takes a half or more off in two rounds: 200 are far more than a long can need.
        for (int round = 0; round < 200 && other != 0; round++) {
            long rest = one % other;
            one = other;
            other = rest;
        }
        return one;
    }

    /**
     * Writes into work.order, from depth on, the first order in which the rest can go. If there is none, the town is
     * left as it was.
     */
    private static boolean findOrder(Orders work, Town town, int rest, int depth) {
        if (rest == 0 || depth >= PEOPLE) {
            return rest == 0;
        }
        for (int person = 0; person < PEOPLE; person++) {
            int from = town.places[person];
            if (has(rest, person) && town.hasWay(person, work.goals[person])) {
                System.arraycopy(town.known, 0, work.knownBefore, depth * PEOPLE, PEOPLE);
                work.order[depth] = person;
                town.arrive(person, work.goals[person]);
                if (findOrder(work, town, rest & ~(1 << person), depth + 1)) {
                    return true;
                }
                town.places[person] = from;
                System.arraycopy(work.knownBefore, depth * PEOPLE, town.known, 0, PEOPLE);
            }
        }
        return false;
    }

    /** All that an IMAGE keeps: TERRACES, BRIDGES, PEOPLE, NEWS, FADE, SIGHTS. */
    private static final class Town {
        int size;
        int bridges;
        final int[] lesserEnds;
        final int[] greaterEnds;
        final int[] loads;
        final int[] bends;
        int people;
        final int[] places;
        final int[] kins;
        /** The NEWS that each PERSON KNOWS, as bits: who is not there KNOWS nothing. */
        final int[] known;
        final int[] weights;
        final int[] abouts;
        int published;
        int fading;
        int sights;
        final int[] sightBridges;
        final int[] sightBends;

        Town() {
            lesserEnds = new int[BRIDGES];
            greaterEnds = new int[BRIDGES];
            loads = new int[BRIDGES];
            bends = new int[BRIDGES];
            places = new int[PEOPLE];
            kins = new int[PEOPLE];
            known = new int[PEOPLE];
            weights = new int[NEWS];
            abouts = new int[NEWS];
            sightBridges = new int[SIGHTS];
            sightBends = new int[SIGHTS];
            fading = FIRST_FADE;
            settle(FIRST_TERRACES);
        }

        /** A town of so many TERRACES, with nothing and nobody there; FADE stays. */
        void settle(int terraces) {
            size = terraces;
            bridges = 0;
            people = 0;
            sights = 0;
            published = 0;
            Arrays.fill(known, 0);
            Arrays.fill(weights, 0);
            Arrays.fill(abouts, NOBODY);
        }

        void copy(Town town) {
            size = town.size;
            bridges = town.bridges;
            people = town.people;
            published = town.published;
            fading = town.fading;
            sights = town.sights;
            System.arraycopy(town.lesserEnds, 0, lesserEnds, 0, BRIDGES);
            System.arraycopy(town.greaterEnds, 0, greaterEnds, 0, BRIDGES);
            System.arraycopy(town.loads, 0, loads, 0, BRIDGES);
            System.arraycopy(town.bends, 0, bends, 0, BRIDGES);
            System.arraycopy(town.places, 0, places, 0, PEOPLE);
            System.arraycopy(town.kins, 0, kins, 0, PEOPLE);
            System.arraycopy(town.known, 0, known, 0, PEOPLE);
            System.arraycopy(town.weights, 0, weights, 0, NEWS);
            System.arraycopy(town.abouts, 0, abouts, 0, NEWS);
            System.arraycopy(town.sightBridges, 0, sightBridges, 0, SIGHTS);
            System.arraycopy(town.sightBends, 0, sightBends, 0, SIGHTS);
        }

        boolean hasTerrace(int terrace) {
            return within(terrace, 0, size - 1);
        }

        boolean hasBridge(int bridge) {
            return within(bridge, 0, BRIDGES - 1) && has(bridges, bridge);
        }

        boolean hasPerson(int person) {
            return within(person, 0, PEOPLE - 1) && has(people, person);
        }

        int knowersOf(int news) {
            int bits = 0;
            for (int person = 0; person < PEOPLE; person++) {
                if (has(known[person], news)) {
                    bits |= 1 << person;
                }
            }
            return bits;
        }

        /** How HEAVY a NEWS is, or would be if the PERSON KNEW it too. */
        int weightFor(int person, int news) {
            int bit = 1 << news;
            if ((published & bit) != 0) {
                return 0;
            }
            // The PERSON itself is the first one, so that the divisor is never 0.
            int knowers = 1;
            for (int other = 0; other < PEOPLE; other++) {
                if (other != person && (known[other] & bit) != 0) {
                    knowers++;
                }
            }
            return (abouts[news] == kins[person] ? 2 * weights[news] : weights[news]) / knowers;
        }

        /** What those NEWS are for a PERSON together, below 0 too. */
        int sum(int person, int newsBits) {
            int pounds = 0;
            for (int news = 0; news < NEWS; news++) {
                if (has(newsBits, news)) {
                    pounds += weightFor(person, news);
                }
            }
            return pounds;
        }

        /** What a PERSON CARRIES. */
        int burden(int person) {
            return Math.max(0, sum(person, known[person]));
        }

        int mostBurden() {
            int most = 0;
            for (int person = 0; person < PEOPLE; person++) {
                if (has(people, person)) {
                    most = Math.max(most, burden(person));
                }
            }
            return most;
        }

        int mostKnowers() {
            int most = 0;
            for (int news = 0; news < NEWS; news++) {
                most = Math.max(most, Integer.bitCount(knowersOf(news)));
            }
            return most;
        }

        int lies() {
            int bits = 0;
            for (int news = 0; news < NEWS; news++) {
                if (weights[news] < 0) {
                    bits |= 1 << news;
                }
            }
            return bits;
        }

        int carriersOf(int pounds) {
            int bits = 0;
            for (int person = 0; person < PEOPLE; person++) {
                if (has(people, person) && burden(person) == pounds) {
                    bits |= 1 << person;
                }
            }
            return bits;
        }

        /** How many SIGHTS before this one tell the same bend of the same BRIDGE. */
        int likeSightsBefore(int sight) {
            int count = 0;
            for (int before = 0; before < sight; before++) {
                if (sightBridges[before] == sightBridges[sight] && sightBends[before] == sightBends[sight]) {
                    count++;
                }
            }
            return count;
        }

        /** The BRIDGES, as bits, that bear so many pounds. */
        int bearing(int pounds) {
            int bits = 0;
            for (int bridge = 0; bridge < BRIDGES; bridge++) {
                if (has(bridges, bridge) && loads[bridge] >= pounds) {
                    bits |= 1 << bridge;
                }
            }
            return bits;
        }

        /** The TERRACES, as bits, that are among these or one open BRIDGE from them. */
        int spread(int terraces, int open) {
            int wider = terraces;
            for (int bridge = 0; bridge < BRIDGES; bridge++) {
                if (has(open, bridge)) {
                    if (has(terraces, lesserEnds[bridge])) {
                        wider |= 1 << greaterEnds[bridge];
                    }
                    if (has(terraces, greaterEnds[bridge])) {
                        wider |= 1 << lesserEnds[bridge];
                    }
                }
            }
            return wider;
        }

        /** The fewest open BRIDGES between two TERRACES; NONE. */
        int distance(int from, int to, int open) {
            int reached = 1 << from;
            for (int length = 0; length < MOST_TERRACES; length++) {
                if (has(reached, to)) {
                    return length;
                }
                int wider = spread(reached, open);
                if (wider == reached) {
                    return NONE;
                }
                reached = wider;
            }
            return NONE;
        }

        boolean hasWay(int person, int terrace) {
            return distance(places[person], terrace, bearing(burden(person))) != NONE;
        }

        int otherEnd(int bridge, int terrace) {
            return lesserEnds[bridge] == terrace ? greaterEnds[bridge] : lesserEnds[bridge];
        }

        boolean isAtEnd(int bridge, int terrace) {
            return lesserEnds[bridge] == terrace || greaterEnds[bridge] == terrace;
        }

        /** The i-th BRIDGE of the WAY; NONE, if it has no such one. */
        int bridgeOfWay(int from, int to, int open, int i) {
            int place = from;
            int bridge = NONE;
            for (int gone = 0; gone <= i && gone < MOST_TERRACES; gone++) {
                bridge = nextBridge(place, to, open);
                if (bridge == NONE) {
                    return NONE;
                }
                place = otherEnd(bridge, place);
            }
            return bridge;
        }

        /** The least open BRIDGE that leads nearer to a TERRACE; NONE. */
        int nextBridge(int from, int to, int open) {
            int length = distance(from, to, open);
            for (int bridge = 0; bridge < BRIDGES; bridge++) {
                if (has(open, bridge) && isAtEnd(bridge, from)
                        && distance(otherEnd(bridge, from), to, open) == length - 1) {
                    return bridge;
                }
            }
            return NONE;
        }

        /** Why the first one can not tell the second one; 0: it can, and has done so. */
        int tellIfItCanBe(int teller, int hearer, int news) {
            if (!hasPerson(teller) || !hasPerson(hearer)) {
                return 1;
            }
            if (teller == hearer || places[teller] != places[hearer]) {
                return 2;
            }
            if (!has(known[teller], news)) {
                return 3;
            }
            if (has(known[hearer], news)) {
                return 4;
            }
            known[hearer] |= 1 << news;
            return 0;
        }

        /** Why the PERSON can not cross; 0: it can, and has done so. */
        int crossIfItCanBe(int person, int bridge) {
            if (!hasPerson(person)) {
                return 1;
            }
            if (!hasBridge(bridge)) {
                return 5;
            }
            if (!isAtEnd(bridge, places[person])) {
                return 6;
            }
            int burden = burden(person);
            if (burden > loads[bridge]) {
                return 7;
            }
            bends[bridge] = Math.max(bends[bridge], burden);
            places[person] = otherEnd(bridge, places[person]);
            return 0;
        }

        /** Why a NEWS can not be PUBLISHED; 0: it can, and is. */
        int publishIfItCanBe(int news) {
            if (has(published, news)) {
                return 8;
            }
            published |= 1 << news;
            return 0;
        }

        void passNight() {
            for (int news = 0; news < NEWS; news++) {
                if (weights[news] > 0) {
                    weights[news] = Math.max(0, weights[news] - fading);
                }
            }
        }

        /** Who, as bits, comes to know a NEWS in one round of its RUMOUR. */
        int hearers(int news) {
            int bits = 0;
            for (int teller = 0; teller < PEOPLE; teller++) {
                if (has(known[teller], news)) {
                    bits |= neighbours(places[teller], bearing(burden(teller)));
                }
            }
            return bits & ~knowersOf(news);
        }

        /** The PEOPLE, as bits, on TERRACES to which open BRIDGES lead. */
        int neighbours(int from, int open) {
            int bits = 0;
            for (int person = 0; person < PEOPLE; person++) {
                if (has(people, person) && distance(from, places[person], open) != NONE) {
                    bits |= 1 << person;
                }
            }
            return bits;
        }

        void tellAll(int hearers, int newsBits) {
            for (int person = 0; person < PEOPLE; person++) {
                if (has(hearers, person)) {
                    known[person] |= newsBits;
                }
            }
        }

        /** A PERSON has come to a TERRACE and tells all who are there all that it KNOWS. */
        void arrive(int person, int terrace) {
            places[person] = terrace;
            tellAll(neighbours(terrace, 0), known[person]);
        }
    }

    /** The signs of a DAY. */
    private static final class Pad {
        /** What has been read of a STEP. */
        private static final int NOTHING = 0, ONE_PERSON = 1, TWO_PEOPLE = 2, CRY = 3, WRONG = 4;

        final int[] signs;
        int count;

        Pad() {
            signs = new int[SIGNS];
        }

        int signAt(int place) {
            return within(place, 0, count - 1) ? signs[place] : 0;
        }

        int faultPlace() {
            int read = NOTHING;
            for (int place = 0; place < count; place++) {
                read = readOn(read, signAt(place));
                if (read == WRONG) {
                    return place;
                }
            }
            return read == NOTHING ? NONE : count;
        }

        private static int readOn(int read, int sign) {
            switch (read) {
                case NOTHING:
                    if (isPersonSign(sign)) {
                        return ONE_PERSON;
                    }
                    return sign == '!' ? CRY : sign == '.' ? NOTHING : WRONG;
                case ONE_PERSON:
                    if (isPersonSign(sign)) {
                        return TWO_PEOPLE;
                    }
                    return within(sign, '0', '0' + BRIDGES - 1) ? NOTHING : WRONG;
                default:
                    return within(sign, 'a', 'a' + NEWS - 1) ? NOTHING : WRONG;
            }
        }

        static boolean isPersonSign(int sign) {
            return within(sign, 'A', 'A' + PEOPLE - 1);
        }
    }

    /** What is JUDGED of a DAY. */
    private static final class Day {
        /** NO, if there is a FAULT; STATE, if some STEP can not be; 0. */
        int refusal;
        /** Why the STEP behind the steps that could be can not be; 0: all can be. */
        int reason;
        int steps;
        int tellings;
        int crossings;
        int nights;

        Day() {
        }

        /** Makes the second town what the first one is behind the DAY, or before the first STEP that can not be. */
        void live(Pad pad, Town before, Town behind) {
            reason = 0;
            steps = 0;
            tellings = 0;
            crossings = 0;
            nights = 0;
            refusal = pad.faultPlace() == NONE ? 0 : NO;
            behind.copy(before);
            // A STEP has one sign at least, so that there are no more STEPS than signs.
            int place = 0;
            for (int i = 0; i < SIGNS && place < pad.count && refusal == 0; i++) {
                place = takeStep(pad, place, behind);
                if (reason == 0) {
                    steps++;
                } else {
                    refusal = STATE;
                }
            }
        }

        /** Takes the STEP at a place; answers the place behind it. */
        private int takeStep(Pad pad, int place, Town town) {
            int first = pad.signAt(place);
            int second = pad.signAt(place + 1);
            if (first == '.') {
                town.passNight();
                nights++;
                return place + 1;
            }
            if (first == '!') {
                reason = town.publishIfItCanBe(second - 'a');
                return place + 2;
            }
            if (Pad.isPersonSign(second)) {
                reason = town.tellIfItCanBe(first - 'A', second - 'A', pad.signAt(place + 2) - 'a');
                tellings++;
                return place + 3;
            }
            reason = town.crossIfItCanBe(first - 'A', second - '0');
            crossings++;
            return place + 2;
        }
    }

    /** Rows in which ERRANDS are put in order. */
    private static final class Orders {
        final int[] order;
        final int[] goals;
        /** What each PERSON KNEW, PEOPLE numbers for each depth of the search. */
        final int[] knownBefore;

        Orders() {
            order = new int[PEOPLE];
            goals = new int[PEOPLE];
            knownBefore = new int[PEOPLE * PEOPLE];
        }

        /** Whether the number's digits, as many as PEOPLE of the set, are TERRACES: these are the goals then. */
        boolean readGoals(int set, int number, int terraces) {
            int rest = number;
            for (int person = PEOPLE - 1; person >= 0; person--) {
                if (has(set, person)) {
                    goals[person] = rest % 10;
                    rest /= 10;
                    if (!within(goals[person], 0, terraces - 1)) {
                        return false;
                    }
                }
            }
            return rest == 0;
        }
    }
}
