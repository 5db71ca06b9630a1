import java.lang.reflect.Field;
import java.lang.reflect.Method;
import java.lang.reflect.Modifier;

/** For each promise of the document: ordinary inputs, edges, wrong inputs in the order of the refusals. */
public final class PromisesTest {
    private static final int MIN = Integer.MIN_VALUE, MAX = Integer.MAX_VALUE;
    private static final int[] WILD = {MIN, -1000, -7, -2, -1};
    private static int wrong = 0;
    private static int calls = 0;
    private static int promise = 0;

    private static void due(String what, long want, long got) {
        calls++;
        if (want != got) {
            wrong++;
            System.out.println("promise " + promise + ": " + what + " answered " + got + ", due is " + want);
        }
    }

    public static void main(String[] args) {
        promise1(); promise2(); promise3(); promise4(); promise5(); promise6(); promise7(); promise8();
        promise9(); promise10(); promise11(); promise12(); promise13(); promise14(); promise15(); promise16();
        promise17(); promise18(); promise19(); promise20(); promise21(); promise22(); promise23(); promise24();
        promise25(); promise26(); promise27(); promise28(); promise29(); promise30(); promise31(); promise32();
        promise33(); promise34(); promise35(); promise36(); promise37();
        face();
        System.out.println(calls + " answers, " + wrong + " not as due");
        if (wrong != 0) {
            System.exit(1);
        }
    }

    // ---- helpers

    private static void write(WeighedWords x, String day) {
        x.wipe();
        for (int i = 0; i < day.length(); i++) {
            x.say(day.charAt(i));
        }
    }

    private static void live(WeighedWords x, String day) {
        write(x, day);
        due("done of " + day, 0, x.done() < 0 ? 1 : 0);
    }

    /** All that told() tells, and bends, as one text. */
    private static String all(WeighedWords x) {
        StringBuilder text = new StringBuilder();
        for (int what = 0; what <= 30; what++) {
            text.append(x.told(what)).append(' ');
        }
        for (int bridge = 0; bridge < 8; bridge++) {
            for (int which = 0; which < 3; which++) {
                text.append(x.told(100 * (1 + bridge) + which)).append(' ');
            }
            text.append(x.bent(bridge)).append(' ');
        }
        for (int person = 0; person < 6; person++) {
            for (int which = 0; which < 3; which++) {
                text.append(x.told(1000 * (1 + person) + which)).append(' ');
            }
        }
        for (int sight = 0; sight < 6; sight++) {
            text.append(x.who(sight)).append(' ');
        }
        return text.append(x.fit()).toString();
    }

    private static void same(String what, String before, WeighedWords x) {
        due(what + " changes nothing", 1, before.equals(all(x)) ? 1 : 0);
    }

    /** Four TERRACES in a row, 0-1 (20), 1-2 (10), 2-3 (30), and A (kin 0) on 0, B (kin 1) on 1, C (kin 2) on 3. */
    private static WeighedWords row() {
        WeighedWords x = new WeighedWords();
        x.bridge(0, 0, 1, 20);
        x.bridge(1, 1, 2, 10);
        x.bridge(2, 2, 3, 30);
        x.person(0, 0, 0);
        x.person(1, 1, 1);
        x.person(2, 3, 2);
        return x;
    }

    // ---- 1 towns, people, news

    private static void promise1() {
        promise = 1;
        WeighedWords x = new WeighedWords();
        int[] first = {0, 4, 0, 0, 1, 0, 0};
        for (int what = 0; what < first.length; what++) {
            due("told(" + what + ")", first[what], x.told(what));
        }
        for (int news = 0; news < 8; news++) {
            due("weight", 1000, x.told(10 + news));
            due("kin", 3, x.told(20 + news));
        }
        for (int person = 0; person < 6; person++) {
            due("carries", WeighedWords.UNKNOWN, x.carries(person));
        }
        for (int bridge = 0; bridge < 8; bridge++) {
            due("bent", WeighedWords.UNKNOWN, x.bent(bridge));
        }
        due("fault", WeighedWords.NONE, x.fault());
        due("restore(0)", WeighedWords.STATE, x.restore(0));
        due("restore(1)", WeighedWords.STATE, x.restore(1));
    }

    private static void promise2() {
        promise = 2;
        WeighedWords x = row();
        x.news(3, -7, 2);
        x.news(4, 9, 1);
        x.learn(0, 4, true);
        x.seen(5, 10);
        x.fade(6);
        live(x, "!d");
        x.say('A');
        String before = all(x);
        for (int n : new int[] {MIN, -1, 0, 1, 7, MAX}) {
            due("terraces(" + n + ")", WeighedWords.OUTSIDE, x.terraces(n));
        }
        same("terraces outside", before, x);
        due("terraces(6)", 4, x.terraces(6));
        due("terraces", 6, x.told(1));
        due("bridges", 0, x.told(2));
        due("people", 0, x.told(3));
        due("fade stays", 6, x.told(4));
        due("sights", 0, x.told(5));
        due("published", 0, x.told(6));
        due("the pad stays", 1, x.told(0));
        due("weight", 1000, x.told(13));
        due("kin", 3, x.told(23));
        due("weight", 1000, x.told(14));
        due("kin", 3, x.told(24));
        due("person(0, 5, 0)", 1, x.person(0, 5, 0));
        due("it knows nothing", 0, x.told(1002));
        due("terraces(2)", 6, x.terraces(2));
        due("terraces(2)", 2, x.terraces(2));
        due("person(0, 2, 0)", WeighedWords.UNKNOWN, x.person(0, 2, 0));
    }

    private static void promise3() {
        promise = 3;
        WeighedWords x = new WeighedWords();
        due("bridge(0, 3, 1, 0)", 1, x.bridge(0, 3, 1, 0));
        due("bridge(7, 0, 3, 99)", 2, x.bridge(7, 0, 3, 99));
        due("again", 2, x.bridge(7, 2, 1, 5));
        due("load", 0, x.told(100));
        due("lesser", 1, x.told(101));
        due("greater", 3, x.told(102));
        due("load", 5, x.told(800));
        due("lesser", 1, x.told(801));
        due("greater", 2, x.told(802));
        due("bits", 129, x.told(2));
        String before = all(x);
        for (int bad : new int[] {MIN, -1, 8, MAX}) {
            due("bridge " + bad, WeighedWords.UNKNOWN, x.bridge(bad, 0, 1, 100));
        }
        for (int bad : new int[] {MIN, -1, 4, MAX}) {
            due("one " + bad, WeighedWords.UNKNOWN, x.bridge(0, bad, 1, 5));
            due("other " + bad, WeighedWords.UNKNOWN, x.bridge(0, 1, bad, 5));
        }
        due("one terrace, and load", WeighedWords.UNKNOWN, x.bridge(0, 1, 1, 100));
        for (int bad : new int[] {MIN, -1, 100, MAX}) {
            due("load " + bad, WeighedWords.OUTSIDE, x.bridge(0, 0, 1, bad));
        }
        same("a refused bridge", before, x);
    }

    private static void promise4() {
        promise = 4;
        WeighedWords x = row();
        x.seen(1, 0);
        due("fall(1)", 2, x.fall(1));
        due("fall(1)", WeighedWords.UNKNOWN, x.fall(1));
        due("bits", 5, x.told(2));
        due("load", WeighedWords.OUTSIDE, x.told(200));
        due("bent", WeighedWords.UNKNOWN, x.bent(1));
        due("sights stay", 1, x.told(5));
        String before = all(x);
        for (int bad : new int[] {MIN, -1, 3, 8, 32, MAX}) {
            due("fall " + bad, WeighedWords.UNKNOWN, x.fall(bad));
        }
        same("a refused fall", before, x);
        due("fall(2)", 1, x.fall(2));
        due("fall(0)", 0, x.fall(0));
        due("bridge(1)", 1, x.bridge(1, 0, 1, 1));
    }

    private static void promise5() {
        promise = 5;
        WeighedWords x = new WeighedWords();
        due("person(5, 3, 2)", 1, x.person(5, 3, 2));
        due("person(0, 0, 0)", 2, x.person(0, 0, 0));
        x.learn(5, 6, true);
        x.learn(0, 6, true);
        due("knows", 64, x.told(6002));
        due("anew", 2, x.person(5, 1, 1));
        due("terrace", 1, x.told(6000));
        due("kin", 1, x.told(6001));
        due("knows nothing", 0, x.told(6002));
        x.news(6, 10, 3);
        due("the other alone", 1010, x.heavy(0, 6));
        String before = all(x);
        for (int bad : new int[] {MIN, -1, 6, MAX}) {
            due("person " + bad, WeighedWords.UNKNOWN, x.person(bad, 0, 3));
        }
        for (int bad : new int[] {MIN, -1, 4, MAX}) {
            due("terrace " + bad, WeighedWords.UNKNOWN, x.person(0, bad, 3));
        }
        for (int bad : new int[] {MIN, -1, 3, MAX}) {
            due("kin " + bad, WeighedWords.OUTSIDE, x.person(0, 0, bad));
        }
        same("a refused person", before, x);
    }

    private static void promise6() {
        promise = 6;
        WeighedWords x = row();
        x.news(0, 9, 3);
        x.learn(0, 0, true);
        x.learn(1, 0, true);
        due("heavy", 1004, x.heavy(0, 0));
        due("leave(1)", 2, x.leave(1));
        due("leave(1)", WeighedWords.UNKNOWN, x.leave(1));
        due("who left does not know", 1009, x.heavy(0, 0));
        due("bits", 5, x.told(3));
        due("place", WeighedWords.OUTSIDE, x.told(2000));
        String before = all(x);
        for (int bad : new int[] {MIN, -1, 5, 6, 32, MAX}) {
            due("leave " + bad, WeighedWords.UNKNOWN, x.leave(bad));
        }
        same("a refused leave", before, x);
        x.person(1, 1, 1);
        due("back, knowing nothing", 0, x.told(2002));
    }

    private static void promise7() {
        promise = 7;
        WeighedWords x = new WeighedWords();
        due("news(7, -20, 3)", 1000, x.news(7, -20, 3));
        due("news(7, 99, 0)", 980, x.news(7, 99, 0));
        due("news(7, 5, 2)", 1099, x.news(7, 5, 2));
        due("kin", 2, x.told(27));
        live(x, "!h");
        due("published", 128, x.told(6));
        x.person(0, 0, 2);
        x.learn(0, 7, true);
        due("0 for all", 1000, x.heavy(0, 7));
        String before = all(x);
        for (int bad : new int[] {MIN, -1, 8, MAX}) {
            due("news " + bad, WeighedWords.UNKNOWN, x.news(bad, 100, 4));
        }
        for (int bad : new int[] {MIN, -21, 100, MAX}) {
            due("weight " + bad, WeighedWords.OUTSIDE, x.news(7, bad, 0));
        }
        for (int bad : new int[] {MIN, -1, 4, MAX}) {
            due("kin " + bad, WeighedWords.OUTSIDE, x.news(7, 0, bad));
        }
        same("a refused news", before, x);
        due("news(7, 6, 2)", 1005, x.news(7, 6, 2));
        due("not published", 0, x.told(6));
        due("known still", 1012, x.heavy(0, 7));
    }

    private static void promise8() {
        promise = 8;
        WeighedWords x = row();
        due("learn", 4, x.learn(0, 2, true));
        due("again", 4, x.learn(0, 2, true));
        due("learn", 132, x.learn(0, 7, true));
        due("another", 1, x.learn(1, 0, true));
        due("unlearn", 128, x.learn(0, 2, false));
        due("unlearn what is not known", 128, x.learn(0, 3, false));
        String before = all(x);
        for (int bad : new int[] {MIN, -1, 3, 6, 32, MAX}) {
            due("person " + bad, WeighedWords.UNKNOWN, x.learn(bad, 0, true));
        }
        for (int bad : new int[] {MIN, -1, 8, MAX}) {
            due("news " + bad, WeighedWords.UNKNOWN, x.learn(0, bad, true));
            due("news " + bad, WeighedWords.UNKNOWN, x.learn(0, bad, false));
        }
        same("a refused learn", before, x);
    }

    private static void promise9() {
        promise = 9;
        WeighedWords x = new WeighedWords();
        due("fade(9)", 1, x.fade(9));
        due("fade(0)", 9, x.fade(0));
        due("fade(4)", 0, x.fade(4));
        for (int bad : new int[] {MIN, -1, 10, MAX}) {
            due("fade " + bad, WeighedWords.OUTSIDE, x.fade(bad));
        }
        due("told", 4, x.told(4));
        x.news(0, 10, 3);
        x.news(1, 3, 3);
        x.news(2, -5, 3);
        live(x, ".");
        due("fades", 1006, x.told(10));
        due("down to 0", 1000, x.told(11));
        due("lies stay", 995, x.told(12));
        x.fade(0);
        live(x, ".");
        due("fade 0", 1006, x.told(10));
    }

    private static void promise10() {
        promise = 10;
        WeighedWords x = new WeighedWords();
        for (int bad : new int[] {MIN, -1, 0, 32, 127, MAX}) {
            due("say " + bad, WeighedWords.OUTSIDE, x.say(bad));
        }
        due("say(33)", 1, x.say(33));
        due("say(126)", 2, x.say(126));
        for (int n = 3; n <= 60; n++) {
            due("say", n, x.say('.'));
        }
        due("say(32)", WeighedWords.OUTSIDE, x.say(32));
        due("say", WeighedWords.FULL, x.say('.'));
        due("signs", 60, x.told(0));
    }

    private static void promise11() {
        promise = 11;
        WeighedWords x = new WeighedWords();
        due("wipe", 0, x.wipe());
        write(x, "Ax");
        due("wipe", 2, x.wipe());
        due("wipe", 0, x.wipe());
        due("fault", WeighedWords.NONE, x.fault());
        due("say", 1, x.say('.'));
    }

    private static void promise12() {
        promise = 12;
        int none = WeighedWords.NONE;
        String[] days = {"", ".", "A", "AB", "ABa", "A0", "!", "!a", "!h", "!i", "A8", "A7", "A/", "G", "a", "0", "FFh",
            "FFi", "FF`", "AG", "A.", "AB.", "!A", "..A0ABa!b", "..A0ABa!", "..A0ABx!b", "~", "@", "A@", "ABC", "F0F0F"};
        int[] faults = {none, none, 1, 2, none, none, 1, none, none, 1, 1, none, 1, 0, 0, 0, none,
            2, 2, 1, 1, 2, 1, none, 8, 6, 0, 0, 1, 2, 5};
        for (int i = 0; i < days.length; i++) {
            WeighedWords x = new WeighedWords();
            write(x, days[i]);
            due("fault of " + days[i], faults[i], x.fault());
            due("signs stay", days[i].length(), x.told(0));
        }
        WeighedWords x = new WeighedWords();
        write(x, "ABa".repeat(19) + "A0.");
        due("60 signs", none, x.fault());
        write(x, "ABa".repeat(19) + ".AB");
        due("60 signs, more must come", 60, x.fault());
    }

    // ---- 2 days

    private static void judged(WeighedWords x, String day, int step, int why) {
        write(x, day);
        due("step of " + day, step, x.judge(0));
        due("why of " + day, why, x.judge(1));
        for (int what = 2; what <= 4; what++) {
            due("judge(" + what + ") of " + day, WeighedWords.STATE, x.judge(what));
        }
    }

    private static void promise13() {
        promise = 13;
        WeighedWords x = row();
        x.person(3, 0, 1);
        x.news(0, 11, 3);
        x.learn(0, 0, true);
        x.news(1, 21, 3);
        judged(x, "EAa", 0, 1);
        judged(x, "AEa", 0, 1);
        judged(x, "EEa", 0, 1);
        judged(x, "E0", 0, 1);
        judged(x, "E7", 0, 1);
        judged(x, "ABa", 0, 2);
        judged(x, "AAa", 0, 2);
        judged(x, "AAb", 0, 2);
        judged(x, "BAa", 0, 2);
        judged(x, "ADb", 0, 3);
        judged(x, "DAa", 0, 3);
        judged(x, "ADaADa", 1, 4);
        judged(x, "ADaDAa", 1, 4);
        judged(x, ".A3", 1, 5);
        judged(x, "A1", 0, 6);
        judged(x, "A2", 0, 6);
        judged(x, "A0A1", 1, 7);
        judged(x, "!a!a", 1, 8);
        judged(x, "!a.!b!a", 3, 8);
        write(x, "A0.A1!aADa");
        due("the first step that can not be", 4, x.judge(0));
        due("why", 2, x.judge(1));
        write(x, "ADa.A0A0D0.!h.!aA0A1");
        due("step", WeighedWords.NONE, x.judge(0));
        due("why", WeighedWords.NONE, x.judge(1));
        due("tellings", 1, x.judge(2));
        due("crossings", 5, x.judge(3));
        due("nights", 3, x.judge(4));
        due("the town is as it was", 0, x.told(1000));
        due("the pad is as it was", 20, x.told(0));
        for (int bad : new int[] {MIN, -1, 5, MAX}) {
            due("judge " + bad, WeighedWords.OUTSIDE, x.judge(bad));
        }
        write(x, "A1A");
        for (int what = 0; what <= 4; what++) {
            due("a fault", WeighedWords.NO, x.judge(what));
        }
        due("outside before the fault", WeighedWords.OUTSIDE, x.judge(5));
        write(x, "!aADa");
        due("what is published may be told", 1, x.judge(2));
    }

    private static void promise14() {
        promise = 14;
        WeighedWords x = row();
        x.person(3, 0, 1);
        x.news(0, 21, 3);
        x.learn(0, 0, true);
        write(x, "ADaA0.D0");
        due("where A is", 1, x.behind(0, 0));
        due("what A carries", 10, x.behind(0, 1));
        due("what A knows", 1, x.behind(0, 2));
        due("where D is", 1, x.behind(3, 0));
        due("what D knows", 1, x.behind(3, 2));
        due("where C is", 3, x.behind(2, 0));
        due("what C knows", 0, x.behind(2, 2));
        due("A is where it was", 0, x.told(1000));
        due("D knows what it knew", 0, x.told(4002));
        due("the weight is as it was", 1021, x.told(10));
        for (int bad : new int[] {MIN, -1, 4, 6, 32, MAX}) {
            due("person " + bad, WeighedWords.UNKNOWN, x.behind(bad, 3));
        }
        for (int bad : new int[] {MIN, -1, 3, MAX}) {
            due("what " + bad, WeighedWords.OUTSIDE, x.behind(0, bad));
        }
        write(x, "A0x");
        due("a fault", WeighedWords.NO, x.behind(0, 0));
        due("outside before it", WeighedWords.OUTSIDE, x.behind(0, 3));
        due("unknown before it", WeighedWords.UNKNOWN, x.behind(5, 0));
        write(x, "A0");
        due("it can not be", WeighedWords.STATE, x.behind(2, 0));
        x.wipe();
        due("behind no day", 21, x.behind(0, 1));
    }

    private static void promise15() {
        promise = 15;
        WeighedWords x = row();
        x.person(3, 0, 1);
        x.news(0, 21, 3);
        x.news(1, 4, 3);
        x.learn(0, 0, true);
        write(x, "ADaA0.D0!b");
        due("done", 5, x.done());
        due("the pad is empty", 0, x.told(0));
        due("where A is", 1, x.told(1000));
        due("where D is", 1, x.told(4000));
        due("what D knows", 1, x.told(4002));
        due("weight", 1020, x.told(10));
        due("the published one fades too", 1003, x.told(11));
        due("published", 2, x.told(6));
        due("bent", 10, x.bent(0));
        due("done", 0, x.done());
        write(x, "A0.A");
        String before = all(x);
        due("a fault", WeighedWords.NO, x.done());
        same("a fault", before, x);
        write(x, "A0.A2");
        before = all(x);
        due("it can not be", WeighedWords.STATE, x.done());
        same("a day that can not be", before, x);
        write(x, ".".repeat(60));
        due("60 nights", 60, x.done());
        due("down to 0", 1000, x.told(10));
    }

    private static void promise16() {
        promise = 16;
        WeighedWords x = row();
        x.news(0, 7, 0);
        x.news(1, -7, 1);
        x.news(2, -7, 0);
        x.learn(0, 0, true);
        due("twice for its kin", 1014, x.heavy(0, 0));
        x.learn(1, 0, true);
        due("by two", 1007, x.heavy(0, 0));
        due("by two, cut", 1003, x.heavy(1, 0));
        x.learn(2, 0, true);
        due("by three, cut", 1004, x.heavy(0, 0));
        due("by three, cut", 1002, x.heavy(2, 0));
        x.learn(0, 1, true);
        x.learn(1, 1, true);
        due("a lie, cut towards 0", 997, x.heavy(0, 1));
        due("a lie about its kin", 993, x.heavy(1, 1));
        x.learn(0, 2, true);
        x.learn(1, 2, true);
        x.learn(2, 2, true);
        due("a lie, twice, by three", 996, x.heavy(0, 2));
        due("a lie, by three", 998, x.heavy(2, 2));
        due("it does not know it", WeighedWords.NONE, x.heavy(2, 1));
        due("it does not know it", WeighedWords.NONE, x.heavy(0, 7));
        live(x, "!c");
        due("published", 1000, x.heavy(0, 2));
        for (int bad : new int[] {MIN, -1, 4, 6, 32, MAX}) {
            due("person " + bad, WeighedWords.UNKNOWN, x.heavy(bad, 0));
        }
        for (int bad : new int[] {MIN, -1, 8, MAX}) {
            due("news " + bad, WeighedWords.UNKNOWN, x.heavy(0, bad));
        }
    }

    private static void promise17() {
        promise = 17;
        WeighedWords x = row();
        due("nothing", 0, x.carries(0));
        x.news(0, 7, 0);
        x.news(1, -20, 1);
        x.news(2, 99, 0);
        x.learn(0, 0, true);
        due("one", 14, x.carries(0));
        x.learn(0, 2, true);
        due("two", 212, x.carries(0));
        x.learn(0, 1, true);
        due("with a lie", 192, x.carries(0));
        x.learn(1, 1, true);
        due("0 at least", 0, x.carries(1));
        due("by two", 202, x.carries(0));
        for (int news = 0; news < 8; news++) {
            x.news(news, 99, 0);
            x.learn(0, news, true);
        }
        x.learn(1, 1, false);
        due("all eight", 1584, x.carries(0));
        for (int bad : new int[] {MIN, -1, 4, 6, 32, MAX}) {
            due("person " + bad, WeighedWords.UNKNOWN, x.carries(bad));
        }
    }

    private static void promise18() {
        promise = 18;
        WeighedWords x = row();
        x.news(0, 20, 3);
        x.learn(0, 0, true);
        due("at first", 0, x.bent(0));
        write(x, "A0");
        x.judge(0);
        x.behind(0, 0);
        due("a day that was not done", 0, x.bent(0));
        live(x, "A0");
        due("A", 20, x.bent(0));
        live(x, ".A0.A0");
        due("the most", 20, x.bent(0));
        live(x, "B1");
        due("nothing", 0, x.bent(1));
        x.bridge(0, 0, 1, 20);
        due("told anew", 0, x.bent(0));
        live(x, "A0.A0");
        due("the most in one day", 18, x.bent(0));
        x.fall(0);
        due("fallen", WeighedWords.UNKNOWN, x.bent(0));
        x.bridge(0, 0, 1, 20);
        due("told anew", 0, x.bent(0));
        for (int bad : new int[] {MIN, -1, 3, 8, 32, MAX}) {
            due("bridge " + bad, WeighedWords.UNKNOWN, x.bent(bad));
        }
    }

    // ---- 3 ways

    private static void promise19() {
        promise = 19;
        WeighedWords x = new WeighedWords();
        x.terraces(6);
        x.person(0, 0, 0);
        x.news(0, 10, 3);
        x.learn(0, 0, true);
        x.bridge(7, 0, 1, 10);
        x.bridge(6, 1, 5, 10);
        x.bridge(1, 0, 2, 10);
        x.bridge(5, 5, 2, 99);
        x.bridge(4, 2, 5, 99);
        x.bridge(0, 0, 5, 9);
        x.bridge(3, 5, 4, 10);
        due("bridges", 2, x.way(0, 5, -1));
        due("the first", 1, x.way(0, 5, 0));
        due("the second", 4, x.way(0, 5, 1));
        due("no third", WeighedWords.NONE, x.way(0, 5, 2));
        due("to 4", 3, x.way(0, 4, -1));
        due("to 4", 1, x.way(0, 4, 0));
        due("to 4", 4, x.way(0, 4, 1));
        due("to 4", 3, x.way(0, 4, 2));
        due("where it is", 0, x.way(0, 0, -1));
        due("where it is", WeighedWords.NONE, x.way(0, 0, 0));
        due("to 3", WeighedWords.NONE, x.way(0, 3, -1));
        due("to 3", WeighedWords.NONE, x.way(0, 3, 0));
        for (int bad : new int[] {MIN, -2, 2, MAX}) {
            due("i " + bad, WeighedWords.NONE, x.way(0, 5, bad));
        }
        x.learn(0, 0, false);
        due("lighter", 1, x.way(0, 5, -1));
        due("lighter", 0, x.way(0, 5, 0));
        for (int bad : new int[] {MIN, -1, 1, 6, 32, MAX}) {
            due("person " + bad, WeighedWords.UNKNOWN, x.way(bad, 0, -1));
        }
        for (int bad : new int[] {MIN, -1, 6, MAX}) {
            due("terrace " + bad, WeighedWords.UNKNOWN, x.way(0, bad, -1));
        }
        longestWay();
    }

    private static void longestWay() {
        WeighedWords x = new WeighedWords();
        x.terraces(6);
        x.person(5, 5, 0);
        for (int terrace = 0; terrace < 5; terrace++) {
            x.bridge(terrace, terrace, terrace + 1, 0);
        }
        due("five bridges", 5, x.way(5, 0, -1));
        for (int i = 0; i < 5; i++) {
            due("five bridges", 4 - i, x.way(5, 0, i));
        }
        due("five bridges", WeighedWords.NONE, x.way(5, 0, 5));
    }

    private interface Trip {
        int of(WeighedWords x, int person, int terrace, int what);
    }

    private static void refusedTrips(WeighedWords x, Trip trip) {
        for (int bad : new int[] {MIN, -1, 5, 6, 32, MAX}) {
            due("person " + bad, WeighedWords.UNKNOWN, trip.of(x, bad, 0, 2));
        }
        for (int bad : new int[] {MIN, -1, 4, MAX}) {
            due("terrace " + bad, WeighedWords.UNKNOWN, trip.of(x, 0, bad, 2));
        }
        for (int bad : new int[] {MIN, -1, 2, MAX}) {
            due("what " + bad, WeighedWords.OUTSIDE, trip.of(x, 0, 1, bad));
        }
    }

    /** A on 0 KNOWS a 5, b 5, c 12, d -4, e 3: 21 together; B on 1 KNOWS c's double f. */
    private static WeighedWords burdened() {
        WeighedWords x = row();
        int[] weights = {5, 5, 12, -4, 3};
        for (int news = 0; news < weights.length; news++) {
            x.news(news, weights[news], 3);
            x.learn(0, news, true);
        }
        return x;
    }

    private static void leftOrCried(Trip trip) {
        WeighedWords x = burdened();
        due("carries", 21, x.carries(0));
        due("one is enough", 1, trip.of(x, 0, 1, 0));
        due("the least that is enough", 1, trip.of(x, 0, 1, 1));
        due("to 2", 1, trip.of(x, 0, 2, 0));
        due("to 2", 4, trip.of(x, 0, 2, 1));
        x.bridge(1, 1, 2, 11);
        due("to 2: c is fewer than a and b", 4, trip.of(x, 0, 2, 1));
        x.bridge(1, 1, 2, 0);
        due("to 2: a, b, c", 3, trip.of(x, 0, 2, 0));
        due("to 2: a, b, c", 7, trip.of(x, 0, 2, 1));
        x.bridge(0, 0, 1, 21);
        due("a way already", 0, trip.of(x, 0, 1, 0));
        due("a way already", 0, trip.of(x, 0, 1, 1));
        due("where it is", 0, trip.of(x, 0, 0, 0));
        due("others know", 12, x.heavy(0, 2) - 1000);
        x.learn(1, 2, true);
        due("to 2: a, b, c of 6", 3, trip.of(x, 0, 2, 0));
        x.learn(1, 0, true);
        due("carries 5/2 5 12/2 -4 3", 12, x.carries(0));
        x.bridge(1, 1, 2, 7);
        due("b", 2, trip.of(x, 0, 2, 1));
        x.fall(1);
        due("no way at all", WeighedWords.NONE, trip.of(x, 0, 2, 0));
        due("no way at all", WeighedWords.NONE, trip.of(x, 0, 2, 1));
        refusedTrips(x, trip);
        due("nothing is forgotten in fact", 31, x.told(1002));
        due("nothing is published in fact", 0, x.told(6));
    }

    private static void promise20() {
        promise = 20;
        leftOrCried((x, person, terrace, what) -> x.left(person, terrace, what));
    }

    private static void promise21() {
        promise = 21;
        leftOrCried((x, person, terrace, what) -> x.cried(person, terrace, what));
        WeighedWords x = burdened();
        live(x, "!a");
        due("one is published already", 0, x.cried(0, 1, 0));
        due("to 2: c", 4, x.cried(0, 2, 1));
    }

    private static void promise22() {
        promise = 22;
        Trip trip = (x, person, terrace, what) -> x.floated(person, terrace, what);
        WeighedWords x = row();
        x.news(0, 30, 3);
        x.learn(0, 0, true);
        x.news(1, -6, 3);
        x.news(2, -5, 0);
        x.news(3, -20, 3);
        x.news(4, 5, 3);
        due("c is twice 5 for A, 20 are left", 4, trip.of(x, 0, 1, 1));
        due("one", 1, trip.of(x, 0, 1, 0));
        due("to 2: d", 8, trip.of(x, 0, 2, 1));
        x.learn(1, 3, true);
        due("d is by two: 20, to 1", 4, trip.of(x, 0, 1, 1));
        due("to 2: c and d", 12, trip.of(x, 0, 2, 1));
        due("to 2: two", 2, trip.of(x, 0, 2, 0));
        x.learn(1, 1, true);
        x.learn(1, 2, true);
        due("by two: 3, 5, 10: to 2 none", WeighedWords.NONE, trip.of(x, 0, 2, 0));
        due("by two: to 1 d", 8, trip.of(x, 0, 1, 1));
        live(x, "!d");
        due("d is published: none", WeighedWords.NONE, trip.of(x, 0, 1, 1));
        x.news(3, -20, 3);
        x.learn(0, 3, true);
        due("what it knows does not help", 20, x.carries(0));
        due("a way already", 0, trip.of(x, 0, 1, 0));
        due("a way already", 0, trip.of(x, 0, 1, 1));
        x.bridge(0, 0, 1, 13);
        due("20 less 3 and 5 is 12", 6, trip.of(x, 0, 1, 1));
        due("where it is", 0, trip.of(x, 0, 0, 0));
        refusedTrips(x, trip);
        due("nothing is told in fact", 9, x.told(1002));
        x.terraces(2);
        x.bridge(0, 0, 1, 5);
        x.person(0, 0, 0);
        x.news(0, -2, 3);
        x.news(1, 7, 3);
        x.learn(0, 1, true);
        due("a is the lie", 1, trip.of(x, 0, 1, 1));
        x.news(0, 0, 3);
        due("what weighs 0 is no lie, and would not help", WeighedWords.NONE, trip.of(x, 0, 1, 1));
    }

    private static void promise23() {
        promise = 23;
        Trip trip = (x, person, terrace, what) -> x.mended(person, terrace, what);
        WeighedWords x = row();
        x.news(0, 25, 3);
        x.learn(0, 0, true);
        due("to 1", 0, trip.of(x, 0, 1, 0));
        due("to 1: pounds", 5, trip.of(x, 0, 1, 1));
        due("two would have to be mended", WeighedWords.NONE, trip.of(x, 0, 2, 0));
        due("two would have to be mended", WeighedWords.NONE, trip.of(x, 0, 2, 1));
        x.bridge(7, 0, 1, 22);
        due("lacks fewer", 7, trip.of(x, 0, 1, 0));
        due("lacks fewer", 3, trip.of(x, 0, 1, 1));
        x.bridge(5, 0, 1, 22);
        due("the least", 5, trip.of(x, 0, 1, 0));
        x.bridge(4, 0, 3, 23);
        due("to 1: 5 still", 5, trip.of(x, 0, 1, 0));
        due("to 2 by 3", 4, trip.of(x, 0, 2, 0));
        due("to 2 by 3", 2, trip.of(x, 0, 2, 1));
        x.bridge(4, 0, 3, 25);
        due("there is a way to 2", WeighedWords.NONE, trip.of(x, 0, 2, 0));
        due("to 1", 5, trip.of(x, 0, 1, 0));
        due("where it is", WeighedWords.NONE, trip.of(x, 0, 0, 0));
        x.terraces(4);
        x.person(0, 0, 0);
        due("no bridge", WeighedWords.NONE, trip.of(x, 0, 1, 0));
        refusedTrips(x, trip);
    }

    private static void promise24() {
        promise = 24;
        WeighedWords x = row();
        x.news(0, 40, 3);
        x.learn(0, 0, true);
        due("too heavy to go", 1, x.rumour(0));
        x.person(3, 0, 1);
        due("D here, both 20 then: B; three 13: no further", 11, x.rumour(0));
        x.person(4, 1, 1);
        due("E on 1: four of 10 cross to 3", 31, x.rumour(0));
        due("nothing is told in fact", 1, x.told(1002));
        due("nobody knows it", 0, x.rumour(1));
        x.fall(2);
        due("C is cut off", 27, x.rumour(0));
        live(x, "!a");
        due("published, it is told too", 27, x.rumour(0));
        x.bridge(2, 2, 3, 0);
        due("and over a bridge that bears nothing", 31, x.rumour(0));
        for (int bad : new int[] {MIN, -1, 8, MAX}) {
            due("news " + bad, WeighedWords.UNKNOWN, x.rumour(bad));
        }
        onlyThen();
    }

    /** Who hears in a round goes in the next one; and who bears something else is held by it. */
    private static void onlyThen() {
        WeighedWords x = row();
        x.news(0, 1, 3);
        x.news(1, 50, 3);
        x.learn(2, 0, true);
        x.learn(1, 1, true);
        due("C goes everywhere itself", 7, x.rumour(0));
        x.bridge(1, 1, 2, 0);
        due("C can not pass 1", 4, x.rumour(0));
        x.person(3, 2, 0);
        due("D is told, and 1 by 2 is 0 for both: all", 15, x.rumour(0));
        x.news(0, 2, 3);
        due("2 by 2 is 1", 12, x.rumour(0));
        x = row();
        x.learn(1, 0, true);
        x.bridge(1, 1, 2, 0);
        x.fall(2);
        due("B tells A, who is the only one", 3, x.rumour(0));
        sixRounds();
    }

    /** Six in a row of TERRACES: in each round NEWS of 60 grows light enough for one BRIDGE more. */
    private static void sixRounds() {
        WeighedWords x = new WeighedWords();
        x.terraces(6);
        int[] loads = {60, 30, 20, 15, 12};
        for (int person = 0; person < 6; person++) {
            x.person(person, person, 0);
        }
        for (int bridge = 0; bridge < 5; bridge++) {
            x.bridge(bridge, bridge, bridge + 1, loads[bridge]);
        }
        x.news(7, 60, 3);
        x.learn(0, 7, true);
        due("all in the end", 63, x.rumour(7));
        x.bridge(4, 4, 5, 11);
        due("all but the last", 31, x.rumour(7));
        x.bridge(1, 1, 2, 29);
        due("stuck on 1", 3, x.rumour(7));
    }

    private static void promise25() {
        promise = 25;
        WeighedWords x = row();
        due("A to 1, B to 2, C to 0: A first", 0, x.errands(7, 120, 0));
        due("then B", 1, x.errands(7, 120, 1));
        due("then C", 2, x.errands(7, 120, 2));
        due("no fourth", WeighedWords.NONE, x.errands(7, 120, 3));
        due("no i", WeighedWords.NONE, x.errands(7, 120, -1));
        due("no i", WeighedWords.NONE, x.errands(7, 120, MIN));
        due("no i", WeighedWords.NONE, x.errands(7, 120, MAX));
        x.news(0, 25, 3);
        x.learn(0, 0, true);
        due("A alone can not", WeighedWords.NONE, x.errands(1, 1, 0));
        due("where it is", 0, x.errands(1, 0, 0));
        x.news(1, -20, 3);
        x.learn(1, 1, true);
        due("B comes to 0 and tells A a lie: B first", 1, x.errands(3, 10, 0));
        due("then A", 0, x.errands(3, 10, 1));
        due("A carries 25, 15 then", 25, x.carries(0));
        due("both to 2: never", WeighedWords.NONE, x.errands(3, 22, 0));
        due("nothing is done in fact", 1, x.told(1002));
        due("nothing is done in fact", 0, x.told(1000));
        x.person(3, 0, 0);
        x.news(1, 0, 3);
        due("A stays and tells D: both by two, 12", 0, x.errands(9, 1, 0));
        due("then D", 3, x.errands(9, 1, 1));
        due("D stays, told nothing; A can not", WeighedWords.NONE, x.errands(9, 10, 0));
        turnedBack();
        refusedErrands();
    }

    /** Orders that are given up on leave nothing behind: neither where somebody came to nor what it told. */
    private static void turnedBack() {
        WeighedWords x = new WeighedWords();
        x.bridge(0, 0, 1, 5);
        x.bridge(1, 1, 2, 20);
        x.person(0, 2, 0);
        x.person(1, 0, 0);
        x.person(2, 1, 0);
        x.news(0, 12, 3);
        x.learn(0, 0, true);
        due("A to 1, B to 1, C to 0: A first tells C alone, 6 each, so B first", 1, x.errands(7, 110, 0));
        due("then A, who tells both, 4 each", 0, x.errands(7, 110, 1));
        due("then C", 2, x.errands(7, 110, 2));
        x.bridge(0, 0, 1, 3);
        due("B first", 1, x.errands(7, 110, 0));
        due("then C, before A comes", 2, x.errands(7, 110, 1));
        due("then A", 0, x.errands(7, 110, 2));
        x.person(3, 3, 0);
        due("D can never: none", WeighedWords.NONE, x.errands(15, 1100, 0));
        due("A is where it was", 2, x.told(1000));
        due("C knows what it knew", 0, x.told(3002));
        x = new WeighedWords();
        x.bridge(0, 0, 1, 30);
        x.person(0, 0, 0);
        x.person(1, 1, 0);
        x.news(0, 20, 3);
        x.news(1, 30, 3);
        x.learn(0, 0, true);
        x.learn(1, 1, true);
        due("whoever comes first makes the other one too heavy", WeighedWords.NONE, x.errands(3, 10, 0));
    }

    private static void refusedErrands() {
        WeighedWords x = row();
        for (int bad : new int[] {MIN, -1, 8, 9, 64, 65, MAX}) {
            due("set " + bad, WeighedWords.OUTSIDE, x.errands(bad, 0, 0));
        }
        for (int bad : new int[] {MIN, -10, -1, 4, 9, 10, 13, MAX}) {
            due("goals " + bad, WeighedWords.OUTSIDE, x.errands(1, bad, 0));
        }
        for (int bad : new int[] {-10, 4, 40, 100, 133, 1000}) {
            due("goals " + bad, WeighedWords.OUTSIDE, x.errands(3, bad, 0));
        }
        due("no errands", WeighedWords.NONE, x.errands(0, 0, 0));
        due("no errands", WeighedWords.NONE, x.errands(0, 0, -1));
        due("goals of nobody", WeighedWords.OUTSIDE, x.errands(0, 1, 0));
        due("goals of nobody", WeighedWords.OUTSIDE, x.errands(0, -1, 0));
        due("outside before i", WeighedWords.OUTSIDE, x.errands(8, 0, 9));
        x.terraces(6);
        for (int person = 0; person < 6; person++) {
            x.person(person, person, 0);
        }
        due("six people, where each is", 5, x.errands(63, 12345, 5));
        due("six people, a digit too many", WeighedWords.OUTSIDE, x.errands(63, 1012345, 5));
        due("six people, no bridges", WeighedWords.NONE, x.errands(63, 54321, 0));
        due("a digit 6", WeighedWords.OUTSIDE, x.errands(63, 12346, 0));
    }

    // ---- 4 halves, fees, rails

    private static void promise26() {
        promise = 26;
        WeighedWords x = row();
        x.news(0, 41, 3);
        due("to 1: A 20, B there; C no", 1, x.two(0, 1, -1));
        due("to 1", 1, x.two(0, 1, 0));
        due("to 1", WeighedWords.NONE, x.two(0, 1, 1));
        due("to 0: A there, B 21", 0, x.two(0, 0, -1));
        x.news(0, 40, 3);
        due("to 0: A there, B 20", 1, x.two(0, 0, -1));
        x.news(0, 21, 3);
        due("to 2: A 10 or B 10 with C 11, but not A with B 11", 2, x.two(0, 2, -1));
        due("to 2: A and C", 2, x.two(0, 2, 0));
        due("to 2: B and C", 12, x.two(0, 2, 1));
        x.news(0, 20, 3);
        due("to 2: all", 3, x.two(0, 2, -1));
        int[] twos = {1, 2, 12};
        for (int i = 0; i < 3; i++) {
            due("to 2", twos[i], x.two(0, 2, i));
        }
        for (int bad : new int[] {MIN, -2, 3, MAX}) {
            due("i " + bad, WeighedWords.NONE, x.two(0, 2, bad));
        }
        x.news(1, 15, 3);
        x.learn(0, 1, true);
        x.news(2, -13, 3);
        due("a lie: A 15 less 7 crosses to 3", 3, x.two(2, 3, -1));
        due("a lie: A and B", 1, x.two(2, 3, 0));
        x.news(2, -9, 3);
        due("A 15 less 5 crosses to 3", 3, x.two(2, 3, -1));
        x.news(2, -8, 3);
        due("A 15 less 4 does not", 1, x.two(2, 3, -1));
        halvesBesides();
        for (int bad : new int[] {MIN, -1, 8, MAX}) {
            due("news " + bad, WeighedWords.UNKNOWN, x.two(bad, 0, -1));
        }
        for (int bad : new int[] {MIN, -1, 4, MAX}) {
            due("terrace " + bad, WeighedWords.UNKNOWN, x.two(0, bad, -1));
        }
    }

    /** The part comes besides what a PERSON CARRIES, which is 0 at least: LIES that it KNOWS do not lighten the part. */
    private static void halvesBesides() {
        WeighedWords x = row();
        x.news(0, 60, 3);
        due("30 and 30 do not cross to 0", 0, x.two(0, 0, -1));
        x.news(1, -10, 3);
        x.learn(1, 1, true);
        due("nor does B with a lie", 0, x.two(0, 0, -1));
        x.news(0, 40, 3);
        due("20 and 20 do", 1, x.two(0, 0, -1));
        x.news(2, 10, 3);
        x.learn(1, 2, true);
        due("B carries 0", 0, x.carries(1));
        due("so does B, that carries 0", 1, x.two(0, 0, -1));
        x.news(1, -9, 3);
        due("but not with 1", 0, x.two(0, 0, -1));
        x.bridge(0, 0, 1, 0);
        due("a lie is 0 at least together with 1 or 0", 3, x.two(1, 0, -1));
        x.bridge(0, 0, 1, 20);
        x.news(0, 39, 0);
        due("19 and 20 are no more for A's kin, and 20 and 1 do not cross", 0, x.two(0, 0, -1));
        live(x, "!a");
        due("halves of what is published weigh what it weighs", 0, x.two(0, 0, -1));
    }

    private static void promise27() {
        promise = 27;
        WeighedWords x = row();
        x.news(0, 7, 3);
        x.learn(0, 0, true);
        due("to 3", 21, x.fee(0, 3));
        due("to 1", 7, x.fee(0, 1));
        due("where it is", 0, x.fee(0, 0));
        due("nothing", 0, x.fee(2, 0));
        x.news(0, 11, 3);
        due("no way", WeighedWords.NONE, x.fee(0, 2));
        for (int bad : new int[] {MIN, -1, 3, 6, 32, MAX}) {
            due("person " + bad, WeighedWords.UNKNOWN, x.fee(bad, 0));
        }
        for (int bad : new int[] {MIN, -1, 4, MAX}) {
            due("terrace " + bad, WeighedWords.UNKNOWN, x.fee(0, bad));
        }
    }

    private static void promise28() {
        promise = 28;
        WeighedWords x = row();
        x.news(0, 7, 3);
        x.learn(0, 0, true);
        x.news(1, 9, 3);
        x.learn(1, 1, true);
        due("to 3", 39, x.fees(3, 0));
        due("to 3", 3, x.fees(3, 1));
        x.news(1, 11, 3);
        due("to 3", 21, x.fees(3, 0));
        due("to 3: B has none", 2, x.fees(3, 1));
        due("to 0", 11, x.fees(0, 0));
        due("to 0", 3, x.fees(0, 1));
        for (int bad : new int[] {MIN, -1, 4, MAX}) {
            due("terrace " + bad, WeighedWords.UNKNOWN, x.fees(bad, 2));
        }
        for (int bad : new int[] {MIN, -1, 2, MAX}) {
            due("what " + bad, WeighedWords.OUTSIDE, x.fees(0, bad));
        }
    }

    private static void promise29() {
        promise = 29;
        WeighedWords x = new WeighedWords();
        for (int bad : new int[] {MIN, -1, 8, MAX}) {
            due("bridge " + bad, WeighedWords.UNKNOWN, x.seen(bad, 1000));
        }
        for (int bad : new int[] {MIN, -1, 1000, MAX}) {
            due("v " + bad, WeighedWords.OUTSIDE, x.seen(0, bad));
        }
        for (int n = 1; n <= 6; n++) {
            due("seen", n, x.seen(n + 1, n == 6 ? 999 : 0));
        }
        due("full", WeighedWords.FULL, x.seen(0, 0));
        due("outside before full", WeighedWords.OUTSIDE, x.seen(0, -1));
        due("unknown before full", WeighedWords.UNKNOWN, x.seen(8, 0));
        due("sights", 6, x.told(5));
    }

    private static void promise30() {
        promise = 30;
        WeighedWords x = new WeighedWords();
        due("forget", 0, x.forget());
        x.seen(0, 0);
        x.seen(0, 0);
        due("forget", 2, x.forget());
        due("forget", 0, x.forget());
        due("fit", 1, x.fit());
        due("seen", 1, x.seen(1, 1));
    }

    private static void promise31() {
        promise = 31;
        WeighedWords x = row();
        x.news(0, 10, 0);
        x.learn(0, 0, true);
        x.learn(1, 0, true);
        x.seen(7, 10);
        x.seen(7, 5);
        x.seen(0, 0);
        x.seen(0, 6);
        due("A", 1, x.who(0));
        due("B", 2, x.who(1));
        due("C", 4, x.who(2));
        due("nobody", 0, x.who(3));
        x.learn(0, 0, false);
        due("as all is now: B carries 10", 2, x.who(0));
        due("as all is now: A and C carry 0", 5, x.who(2));
        for (int bad : new int[] {MIN, -1, 4, 5, 6, MAX}) {
            due("sight " + bad, WeighedWords.OUTSIDE, x.who(bad));
        }
    }

    private static void promise32() {
        promise = 32;
        WeighedWords x = new WeighedWords();
        due("nothing seen", 1, x.fit());
        for (int person = 0; person < 6; person++) {
            x.person(person, 0, 0);
        }
        int[] ways = {6, 36, 180, 720, 2160, 4320};
        int[] bridges = {0, 1, 1, 1, 1, 1};
        int product = 6;
        int[] free = {0, 6, 5, 4, 3, 2};
        due("one", 6, x.seen(bridges[0], 0) == 1 ? x.fit() : -1);
        for (int i = 1; i < 6; i++) {
            x.seen(bridges[i], 0);
            product *= free[i];
            due("fit", product, x.fit());
            due("fit", ways[i], x.fit());
        }
        x.news(0, 5, 3);
        x.learn(0, 0, true);
        due("one less carries 0", 5 * 120, x.fit());
        x.forget();
        x.seen(2, 5);
        x.seen(2, 0);
        due("A and another", 5, x.fit());
        x.seen(2, 5);
        due("A twice on one bridge", 0, x.fit());
        x.forget();
        x.seen(2, 5);
        x.seen(3, 5);
        due("A on two", 1, x.fit());
        x.seen(3, 6);
        due("nobody", 0, x.fit());
        x.forget();
        for (int i = 0; i < 6; i++) {
            x.seen(i, 0);
        }
        x.learn(0, 0, false);
        due("all on six", 46656, x.fit());
    }

    private static void fraction(WeighedWords x, int person, int terrace, int t, long upper, long lower) {
        due("upper of " + person + " to " + terrace + " by " + t, upper, x.chance(person, terrace, t, 0));
        due("lower of " + person + " to " + terrace + " by " + t, lower, x.chance(person, terrace, t, 1));
    }

    private static void promise33() {
        promise = 33;
        WeighedWords x = row();
        fraction(x, 0, 3, 5, 1, 8);
        fraction(x, 0, 3, 10, 1, 1);
        fraction(x, 0, 3, 0, 0, 1);
        fraction(x, 0, 0, 0, 1, 1);
        fraction(x, 0, 0, 3, 1, 1);
        fraction(x, 0, 1, 7, 7, 10);
        x.bridge(3, 0, 3, 20);
        fraction(x, 0, 3, 5, 9, 16);
        fraction(x, 0, 3, 3, 3189, 10000);
        x.news(0, 11, 3);
        x.learn(0, 0, true);
        fraction(x, 0, 3, 3, 3, 10);
        x.news(0, 21, 3);
        fraction(x, 0, 3, 3, 0, 1);
        fraction(x, 0, 3, 10, 0, 1);
        for (int bridge = 0; bridge < 8; bridge++) {
            x.bridge(bridge, 0, 1, 99);
        }
        fraction(x, 0, 1, 1, 100000000L - 43046721L, 100000000L);
        for (int bad : new int[] {MIN, -1, 3, 6, 32, MAX}) {
            due("person " + bad, WeighedWords.GONE - 1, x.chance(bad, 0, 11, 2));
        }
        for (int bad : new int[] {MIN, -1, 4, MAX}) {
            due("terrace " + bad, WeighedWords.GONE - 1, x.chance(0, bad, 11, 2));
        }
        for (int bad : new int[] {MIN, -1, 11, MAX}) {
            due("t " + bad, WeighedWords.GONE - 2, x.chance(0, 0, bad, 0));
        }
        for (int bad : new int[] {MIN, -1, 2, MAX}) {
            due("part " + bad, WeighedWords.GONE - 2, x.chance(0, 0, 5, bad));
        }
    }

    private static void promise34() {
        promise = 34;
        WeighedWords x = new WeighedWords();
        for (int person = 0; person < 6; person++) {
            x.person(person, 0, 0);
        }
        x.news(2, 20, 3);
        x.learn(2, 2, true);
        // x is 74 first: PERSON 2 tells PERSON 12 left over by 6, 0, the NEWS 2.
        due("one telling", 1, x.year(0, 1, 0));
        due("by two", 10, x.year(0, 1, 1));
        due("two know it", 2, x.year(0, 1, 2));
        due("nothing is done", 0, x.told(1002));
        x.leave(0);
        due("nobody to be told", 0, x.year(0, 1, 0));
        due("20", 20, x.year(0, 6, 1));
        due("a night behind the seventh turn", 19, x.year(0, 7, 1));
        due("two nights", 18, x.year(0, 14, 1));
        due("the weight stays", 1020, x.told(12));
        x.person(0, 1, 0);
        due("on two terraces", 0, x.year(0, 1, 0));
        for (int bad : new int[] {MIN, -1, 10000, MAX}) {
            due("seed " + bad, WeighedWords.OUTSIDE, x.year(bad, 1, 0));
        }
        for (int bad : new int[] {MIN, -1, 0, 100, MAX}) {
            due("m " + bad, WeighedWords.OUTSIDE, x.year(1, bad, 0));
        }
        for (int bad : new int[] {MIN, -1, 3, MAX}) {
            due("what " + bad, WeighedWords.OUTSIDE, x.year(1, 1, bad));
        }
        x.news(0, 50, 3);
        x.learn(0, 0, true);
        due("A carries the most", 50, x.year(0, 1, 1));
        x.learn(1, 0, true);
        due("most know a", 2, x.year(0, 1, 2));
        x.terraces(2);
        due("nobody carries", 0, x.year(9999, 99, 1));
        due("nobody knows", 0, x.year(9999, 99, 2));
    }

    private static WeighedWords rich() {
        WeighedWords x = row();
        x.fade(3);
        x.news(0, 12, 1);
        x.news(5, -3, 0);
        x.learn(0, 0, true);
        x.learn(2, 5, true);
        x.seen(4, 12);
        x.seen(0, 0);
        live(x, "A0ABa!f");
        return x;
    }

    private static void promise35() {
        promise = 35;
        WeighedWords x = rich();
        write(x, "A0");
        String before = all(x);
        due("image(0)", 1, x.image(0));
        for (int bad : new int[] {MIN, -1, 2, MAX}) {
            due("image " + bad, WeighedWords.OUTSIDE, x.image(bad));
        }
        same("an image", before, x);
        x.done();
        due("image(1)", 1, x.image(1));
        x.terraces(6);
        due("restore(0)", 1, x.restore(0));
        due("A", 1, x.told(1000));
        due("restore(1)", 1, x.restore(1));
        due("A", 0, x.told(1000));
        due("image(0) anew", 1, x.image(0));
        x.leave(0);
        x.restore(0);
        due("A", 0, x.told(1000));
    }

    private static void promise36() {
        promise = 36;
        sightsAreBack();
        WeighedWords x = rich();
        String before = all(x);
        x.image(1);
        due("not kept", WeighedWords.STATE, x.restore(0));
        for (int bad : new int[] {MIN, -1, 2, MAX}) {
            due("restore " + bad, WeighedWords.OUTSIDE, x.restore(bad));
        }
        same("a refused restore", before, x);
        for (int time = 0; time < 2; time++) {
            x.terraces(2 + time);
            x.fade(7);
            x.person(0, 0, 1);
            x.bridge(1, 0, 1, 3);
            x.seen(1, 1);
            x.news(0, 77, 0);
            due("restore(1)", 1, x.restore(1));
            same("what was in between", before, x);
        }
        write(x, "AB");
        due("restore(1)", 1, x.restore(1));
        due("the pad stays", 2, x.told(0));
        due("the bend is back", 12, x.bent(0));
    }

    private static void sightsAreBack() {
        WeighedWords x = new WeighedWords();
        x.person(0, 0, 0);
        x.seen(1, 0);
        x.seen(2, 0);
        x.image(0);
        x.forget();
        x.seen(3, 0);
        x.seen(3, 0);
        due("A twice on one bridge", 0, x.fit());
        x.restore(0);
        due("A on two bridges", 1, x.fit());
    }

    private static void promise37() {
        promise = 37;
        WeighedWords x = rich();
        x.say('A');
        int[] want = {1, 4, 7, 7, 3, 2, 32, -2, -2, -2, 1012, 1000, 1000, 1000, 1000, 997, 1000, 1000, -2, -2,
            1, 3, 3, 3, 3, 0, 3, 3, -2, -2, -2};
        for (int what = 0; what < want.length; what++) {
            due("told(" + what + ")", want[what], x.told(what));
        }
        int[][] more = {{100, 20}, {101, 0}, {102, 1}, {103, -2}, {199, -2}, {200, 10}, {201, 1}, {202, 2}, {300, 30},
            {301, 2}, {302, 3}, {400, -2}, {401, -2}, {800, -2}, {802, -2}, {900, -2}, {901, -2}, {999, -2}, {99, -2},
            {1000, 1}, {1001, 0}, {1002, 1}, {1003, -2}, {1100, -2}, {1999, -2}, {2000, 1}, {2001, 1}, {2002, 1},
            {3000, 3}, {3001, 2}, {3002, 32}, {4000, -2}, {6000, -2}, {7000, -2}, {7001, -2}, {33000, -2},
            {MAX, -2}, {3300, -2}};
        for (int[] pair : more) {
            due("told(" + pair[0] + ")", pair[1], x.told(pair[0]));
        }
        for (int bad : WILD) {
            due("told(" + bad + ")", WeighedWords.OUTSIDE, x.told(bad));
        }
    }

    // ---- the public face

    private static void face() {
        promise = 0;
        due("public methods", 37 - 1, java.util.Arrays.stream(WeighedWords.class.getDeclaredMethods())
            .filter(m -> !Modifier.isPrivate(m.getModifiers())).count());
        for (Method method : WeighedWords.class.getDeclaredMethods()) {
            if (Modifier.isPrivate(method.getModifiers())) {
                continue;
            }
            due(method.getName() + " is public", 1, Modifier.isPublic(method.getModifiers()) ? 1 : 0);
        }
        int open = 0;
        for (Field field : WeighedWords.class.getDeclaredFields()) {
            if (!Modifier.isPrivate(field.getModifiers())) {
                open++;
            }
        }
        due("constants", 7, open);
        due("constructors", 1, WeighedWords.class.getDeclaredConstructors().length);
    }
}
