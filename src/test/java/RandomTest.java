import java.nio.charset.StandardCharsets;
import java.util.ArrayList;
import java.util.List;
import java.util.Random;

/** Runs of calls drawn by lot (the same ones each time), each answer held against NaiveEve's. */
public final class RandomTest {
    private static final String[] FACTS = {"late", "waiting", "left", "must", "here", "slot"};
    private static final String[] TESTS = {"above", "below", "is"};
    private static final String[] ACTS = {"skip", "full", "wait", "swap", "short", "pause"};
    private static final String[] RULES = {"slot", "floor", "door", "late", "rest", "apart"};
    private static final String[] WORDS = {"ida", "Maths", "IDA", "late", "a", "b2", "maths", "zoo", "of"};

    private final Random lot;
    private final ParentEve desk = new ParentEve();
    private final NaiveEve naive = new NaiveEve();
    private final List<String> calls = new ArrayList<>();
    private final int odd;
    private int families = 15, teachers = 10;
    private boolean failed = false;

    private RandomTest(long seed) {
        lot = new Random(seed);
        odd = lot.nextInt(4) == 0 ? 10 : 60;
    }

    public static void main(String[] args) {
        int from = args.length > 0 ? Integer.parseInt(args[0]) : 0;
        int to = args.length > 1 ? Integer.parseInt(args[1]) : 300;
        int wrong = 0;
        long asked = 0;
        for (int seed = from; seed < to && wrong < 5; seed++) {
            RandomTest run = new RandomTest(seed);
            run.all();
            asked += run.calls.size();
            if (run.failed) {
                wrong++;
                System.out.println("seed " + seed + ":");
                for (String call : run.calls) System.out.println("    " + call);
            }
        }
        System.out.println("RandomTest: " + asked + " answers, " + wrong + " runs went wrong");
        if (wrong != 0) System.exit(1);
    }

    private void due(String call, int got, int want) {
        calls.add(call + " " + got + (got == want ? "" : " DUE " + want));
        if (got != want) failed = true;
    }

    private boolean go() { return !failed && calls.size() < 500; }

    /** A number from .. to, now and then one that isn't. */
    private int in(int from, int to) {
        if (lot.nextInt(odd) != 0) return from + lot.nextInt(to - from + 1);
        switch (lot.nextInt(6)) {
            case 0: return from - 1;
            case 1: return to + 1;
            case 2: return Integer.MIN_VALUE;
            case 3: return Integer.MAX_VALUE;
            case 4: return to;
            default: return lot.nextInt();
        }
    }

    private int f() { return in(0, families - 1); }
    private int t() { return in(0, teachers - 1); }
    private int a() { return in(0, Math.max(0, naive.asks.size() - 1)); }

    private void all() {
        boolean small = lot.nextBoolean();
        if (small) {
            families = 1 + lot.nextInt(5);
            teachers = 1 + lot.nextInt(4);
        }
        if (lot.nextInt(3) > 0) rules();
        int people = lot.nextInt(40);
        for (int i = 0; i < people && go(); i++) person();
        int policies = lot.nextInt(8);
        for (int i = 0; i < policies && go(); i++) policy();
        int asks = small ? lot.nextInt(20) : lot.nextInt(48);
        for (int i = 0; i < asks && go(); i++) ask();
        int plans = lot.nextInt(70);
        for (int i = 0; i < plans && go(); i++) plan();
        if (lot.nextBoolean() && go()) due("layAll()", desk.layAll(), naive.layAll());
        if (lot.nextInt(3) > 0 && go()) settle();
        look();
        int notes = lot.nextInt(3) == 0 ? lot.nextInt(40) : 0;
        for (int i = 0; i < notes && go(); i++) notes();
        if (lot.nextInt(8) > 0 && go()) {
            due("begin()", desk.begin(), naive.begin());
            int tellings = lot.nextInt(3) == 0 ? 140 : lot.nextInt(50);
            int minute = 0;
            for (int i = 0; i < tellings && go(); i++) minute = evening(minute);
        }
        for (int i = 0; i < 20 && go(); i++) any();
        look();
    }

    private void settle() { due("settle()", desk.settle(), naive.settle()); }

    private void look() {
        for (int a = 0; a < naive.asks.size() && go(); a++) due("about(" + a + ", 3)", desk.about(a, 3), naive.about(a, 3));
        for (int what = -1; what < 15 && go(); what++) due("count(" + what + ")", desk.count(what), naive.count(what));
        for (int what = -1; what < 5 && go(); what++) due("value(" + what + ")", desk.value(what), naive.value(what));
    }

    private void any() {
        switch (lot.nextInt(9)) {
            case 0: rules(); break;
            case 1: person(); break;
            case 2: policy(); break;
            case 3: ask(); break;
            case 4: plan(); break;
            case 5: tape(); break;
            case 6: notes(); break;
            default: evening(lot.nextInt(800)); break;
        }
    }

    private void feed(String text) {
        byte[] b = text.getBytes(StandardCharsets.ISO_8859_1);
        for (int i = 0; i < b.length; i += 20) {
            int[] w = new int[5];
            for (int j = 0; j < 5; j++) w[j] = Check.four(b, i + 4 * j);
            int want = naive.feed(w[0], w[1], w[2], w[3], w[4]);
            due("feed(" + text + ")", desk.feed(w[0], w[1], w[2], w[3], w[4]), want);
        }
        due("end(" + b.length + ")", desk.end(b.length), naive.end(b.length));
    }

    private void tape() {
        int n = in(0, 60);
        if (lot.nextBoolean()) due("end(" + n + ")", desk.end(n), naive.end(n));
        int w = lot.nextInt();
        due("feed(" + w + ")", desk.feed(w, w, w, w, w), naive.feed(w, w, w, w, w));
    }

    private String blank() { return new String[] {" ", " ", " ", "  ", "\n"}[lot.nextInt(5)]; }

    private String spoilt(String text) {
        if (lot.nextInt(3) > 0 || text.isEmpty()) return text;
        StringBuilder s = new StringBuilder(text);
        int at = lot.nextInt(s.length());
        switch (lot.nextInt(5)) {
            case 0: s.setLength(at); break;
            case 1: s.deleteCharAt(at); break;
            case 2: s.insert(at, (char) lot.nextInt(256)); break;
            case 3: s.insert(at, lot.nextInt(10)); break;
            default: s.setCharAt(at, " ;a0z9\n".charAt(lot.nextInt(7))); break;
        }
        return s.toString();
    }

    private void rules() {
        StringBuilder s = new StringBuilder();
        int n = lot.nextInt(6);
        int[] most = {30, 20, 20, 99, 9, 9};
        int first = lot.nextInt(6);
        for (int i = 0; i < n; i++) {
            int which = lot.nextInt(15) == 0 ? lot.nextInt(6) : (first + i) % 6;
            int greatest = lot.nextInt(3) == 0 ? most[which] : Math.min(most[which], 12);
            int value = lot.nextInt(40) == 0 ? most[which] + 1 : (which == 0 ? 1 : 0) + lot.nextInt(greatest + (which == 0 ? 0 : 1));
            s.append(RULES[which]).append(blank()).append(value).append(lot.nextInt(20) == 0 ? blank() : "").append(";").append(blank());
        }
        feed(spoilt(s.toString()));
        due("rules()", desk.rules(), naive.rules());
        due("fault(0)", desk.fault(0), naive.fault(0));
        due("fault(1)", desk.fault(1), naive.fault(1));
        for (int i = -1; i < 7; i++) due("rule(" + i + ")", desk.rule(i), naive.rule(i));
    }

    private void policy() {
        StringBuilder s = new StringBuilder();
        int n = lot.nextInt(12) == 0 ? 9 : lot.nextInt(4);
        for (int i = 0; i < n; i++) {
            s.append("when");
            int conds = lot.nextInt(25) == 0 ? 5 : 1 + lot.nextInt(2);
            if (n == 9) conds = 1;
            for (int c = 0; c < conds; c++) {
                if (c > 0) s.append(blank()).append("and");
                int fact = lot.nextInt(6);
                int number = fact == 3 || fact == 4 ? lot.nextInt(2) : fact == 0 ? lot.nextInt(30) : lot.nextInt(6);
                s.append(blank()).append(FACTS[fact]).append(blank()).append(TESTS[lot.nextInt(3)]).append(" ").append(number);
            }
            int act = lot.nextInt(6);
            s.append(blank()).append("do ").append(ACTS[act]);
            if (act > 3) s.append(" ").append(lot.nextInt(30) == 0 ? 31 : 1 + lot.nextInt(15));
            s.append(";");
        }
        int p = in(0, 3), t = t(), q = in(-1, 3);
        feed(spoilt(s.toString()));
        due("policy(" + p + ")", desk.policy(p), naive.policy(p));
        due("fault(0)", desk.fault(0), naive.fault(0));
        due("fault(1)", desk.fault(1), naive.fault(1));
        due("follow(" + t + ", " + q + ")", desk.follow(t, q), naive.follow(t, q));
    }

    private void person() {
        int t = t(), u = t(), f = f(), g = f(), x = in(0, 9), y = in(0, 9), tongue = in(0, 3);
        int from = in(0, 19), to = lot.nextInt(8) == 0 ? in(0, 19) : Math.min(19, from < 0 ? 0 : from + lot.nextInt(14));
        boolean is = lot.nextInt(4) > 0;
        switch (lot.nextInt(6)) {
            case 0: due("room(" + t + ", " + x + ", " + y + ")", desk.room(t, x, y), naive.room(t, x, y)); break;
            case 1: due("teacher(" + t + ", " + from + ", " + to + ")", desk.teacher(t, from, to), naive.teacher(t, from, to)); break;
            case 2: due("family(" + f + ", " + from + ", " + to + ", " + tongue + ")", desk.family(f, from, to, tongue), naive.family(f, from, to, tongue)); break;
            case 3: due("wish(" + f + ", " + from + ", " + to + ", " + x + ")", desk.wish(f, from, to, x), naive.wish(f, from, to, x)); break;
            case 4: due("apart(" + f + ", " + g + ", " + is + ")", desk.apart(f, g, is), naive.apart(f, g, is)); break;
            default: due("walk(" + t + ", " + u + ")", desk.walk(t, u), naive.walk(t, u)); break;
        }
    }

    private void ask() {
        int f = f(), t = t();
        boolean must = lot.nextInt(3) == 0;
        due("ask(" + f + ", " + t + ", " + must + ")", desk.ask(f, t, must), naive.ask(f, t, must));
    }

    private void plan() {
        int a = a(), slot = in(0, 19), f = f(), what = in(0, 3);
        switch (lot.nextInt(13)) {
            case 0: case 1: case 2: due("lay(" + a + ", " + slot + ")", desk.lay(a, slot), naive.lay(a, slot)); break;
            case 3: case 4: due("may(" + a + ", " + slot + ")", desk.may(a, slot), naive.may(a, slot)); break;
            case 5: due("lift(" + a + ")", desk.lift(a), naive.lift(a)); break;
            case 6: case 7: best(); break;
            case 8: due("about(" + a + ", " + what + ")", desk.about(a, what), naive.about(a, what)); break;
            case 9: due("waits(" + f + ")", desk.waits(f), naive.waits(f)); break;
            case 10: for (int i = 0; i < 4; i++) due("value(" + i + ")", desk.value(i), naive.value(i)); break;
            case 11: if (lot.nextInt(6) == 0) due("layAll()", desk.layAll(), naive.layAll()); break;
            default: if (lot.nextInt(6) == 0) settle(); break;
        }
    }

    private void best() {
        int set = 0;
        int want = lot.nextInt(20) == 0 ? 4 + lot.nextInt(2) : 1 + lot.nextInt(3);
        for (int i = 0; i < 30 && Integer.bitCount(set) < want; i++) {
            int a = lot.nextInt(Math.max(1, Math.min(30, naive.asks.size())));
            boolean laid = a < naive.asks.size() && naive.asks.get(a).slot != -1;
            if (!laid || lot.nextInt(20) == 0) set |= 1 << a;
        }
        if (lot.nextInt(odd) == 0) set = lot.nextInt();
        due("best(" + set + ")", desk.best(set), naive.best(set));
    }

    private void notes() {
        int a = a(), t = t(), i = in(0, 20);
        StringBuilder s = new StringBuilder();
        int n = lot.nextInt(8);
        for (int k = 0; k < n; k++) s.append(WORDS[lot.nextInt(9)]).append(" .,1".charAt(lot.nextInt(4)));
        boolean is = lot.nextInt(4) > 0;
        switch (lot.nextInt(5)) {
            case 0:
                feed(spoilt(s.toString()));
                due("note(" + a + ")", desk.note(a), naive.note(a));
                break;
            case 1: due("let(" + a + ", " + t + ", " + is + ")", desk.let(a, t, is), naive.let(a, t, is)); break;
            case 2: due("read(" + t + ", " + a + ", " + i + ")", desk.read(t, a, i), naive.read(t, a, i)); break;
            case 3:
                feed(spoilt(WORDS[lot.nextInt(9)]));
                due("find(" + t + ")", desk.find(t), naive.find(t));
                for (int k = 0; k < 3; k++) due("found(" + k + ")", desk.found(k), naive.found(k));
                break;
            default: due("found(" + (i - 1) + ")", desk.found(i - 1), naive.found(i - 1)); break;
        }
    }

    private int evening(int before) {
        int minute = lot.nextInt(odd) == 0 ? in(0, 799) : Math.min(799, before + (lot.nextBoolean() ? 0 : lot.nextInt(25)));
        int a = a(), f = f(), t = t(), n = lot.nextBoolean() ? in(0, 60) : lot.nextInt(12), from = in(0, 799), to = in(0, 799);
        int near = Math.max(0, Math.min(799, minute + lot.nextInt(80) - 40)), span = Math.min(799, near + lot.nextInt(30));
        if (lot.nextInt(odd) != 0) { from = near; to = span; }
        boolean is = lot.nextInt(3) > 0;
        int size = naive.tellings.size();
        switch (lot.nextInt(16)) {
            case 0: case 1: due("over(" + minute + ", " + a + ", " + n + ")", desk.over(minute, a, n), naive.over(minute, a, n)); break;
            case 2: case 3: due("absent(" + minute + ", " + a + ", " + is + ")", desk.absent(minute, a, is), naive.absent(minute, a, is)); break;
            case 4: case 5: due("comes(" + minute + ", " + f + ", " + from + ")", desk.comes(minute, f, from), naive.comes(minute, f, from)); break;
            case 6: case 7: due("away(" + minute + ", " + t + ", " + from + ", " + to + ")", desk.away(minute, t, from, to), naive.away(minute, t, from, to)); break;
            case 8: for (int w = 0; w < 4; w++) due("meeting(" + a + ", " + near + ", " + w + ")", desk.meeting(a, near, w), naive.meeting(a, near, w)); break;
            case 9: near = lot.nextInt(Math.max(1, Math.min(800, minute + 40))); due("off(" + near + ")", desk.off(near), naive.off(near)); break;
            case 10: due("next(" + f + ", " + minute + ")", desk.next(f, minute), naive.next(f, minute)); break;
            case 11: due("messages(" + f + ")", desk.messages(f), naive.messages(f)); break;
            case 12: if (lot.nextInt(3) == 0) due("mend(" + near + ")", desk.mend(near), naive.mend(near)); break;
            case 13:
                if (lot.nextInt(3) == 0) due("habit(" + t + ", " + n + ")", desk.habit(t, n), naive.habit(t, n));
                due("foretold(" + t + ")", desk.foretold(t), naive.foretold(t));
                break;
            case 14: if (lot.nextInt(4) == 0) { int q = in(-1, 3); due("follow(" + t + ", " + q + ")", desk.follow(t, q), naive.follow(t, q)); } break;
            default: due("count(5)", desk.count(5), naive.count(5)); due("count(6)", desk.count(6), naive.count(6)); break;
        }
        return naive.tellings.size() > size ? minute : before;
    }
}
