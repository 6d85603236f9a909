import java.util.ArrayList;
import java.util.List;

/**
 * Each call that is refused, with its answer, and that it leaves all as it was: two desks are made ready alike, one
 * of them refuses a call, and then both must answer alike whatever they are asked.
 */
public final class RefusedTest {
    private static final Check CHECK = new Check();
    private static final int RANGE = -2, FULL = -3, STATE = -4;
    private static final int CALLS_MOST = 512;

    private interface Call {
        int on(ParentEve x, int... v);
    }

    private interface Setup {
        void on(ParentEve x);
    }

    /** A call with the least and the greatest of each of its numbers, and numbers with which it isn't refused by them. */
    private static final class Kind {
        final String name;
        final Call call;
        final int[] least, most, plain;

        Kind(String name, Call call, int[] least, int[] most, int[] plain) {
            this.name = name;
            this.call = call;
            this.least = least;
            this.most = most;
            this.plain = plain;
        }
    }

    private static final List<Kind> KINDS = new ArrayList<>();

    public static void main(String[] args) {
        kinds();
        ranges();
        spans();
        states();
        others();
        full();
        tapes();
        CHECK.end("RefusedTest");
    }

    private static int[] row(int... row) {
        return row;
    }

    private static void kind(String name, Call call, int[] least, int[] most, int[] plain) {
        KINDS.add(new Kind(name, call, least, most, plain));
    }

    // the desks have 6 ASKS, and the latest TELLING in THE EVENING is at minute 30
    private static void kinds() {
        kind("7 follow", (x, v) -> x.follow(v[0], v[1]), row(0, -1), row(9, 3), row(2, 1));
        kind("9 room", (x, v) -> x.room(v[0], v[1], v[2]), row(0, 0, 0), row(9, 9, 9), row(2, 3, 4));
        kind("10 teacher", (x, v) -> x.teacher(v[0], v[1], v[2]), row(0, 0, 0), row(9, 19, 19), row(2, 3, 3));
        kind("11 family", (x, v) -> x.family(v[0], v[1], v[2], v[3]), row(0, 0, 0, 0), row(14, 19, 19, 3), row(2, 3, 3, 1));
        kind("12 wish", (x, v) -> x.wish(v[0], v[1], v[2], v[3]), row(0, 0, 0, 0), row(14, 19, 19, 9), row(2, 3, 3, 5));
        kind("13 apart", (x, v) -> x.apart(v[0], v[1], true), row(0, 0), row(14, 14), row(2, 3));
        kind("14 walk", (x, v) -> x.walk(v[0], v[1]), row(0, 0), row(9, 9), row(2, 3));
        kind("15 ask", (x, v) -> x.ask(v[0], v[1], true), row(0, 0), row(14, 9), row(7, 7));
        kind("16 may", (x, v) -> x.may(v[0], v[1]), row(0, 0), row(5, 19), row(5, 3));
        kind("17 lay", (x, v) -> x.lay(v[0], v[1]), row(0, 0), row(5, 19), row(5, 3));
        kind("18 lift", (x, v) -> x.lift(v[0]), row(0), row(5), row(5));
        kind("20 best", (x, v) -> x.best(v[0]), row(1), row(63), row(32));
        kind("23 waits", (x, v) -> x.waits(v[0]), row(0), row(14), row(0));
        kind("25 habit", (x, v) -> x.habit(v[0], v[1]), row(0, 0), row(9, 60), row(2, 5));
        kind("26 foretold", (x, v) -> x.foretold(v[0]), row(0), row(9), row(2));
        kind("28 over", (x, v) -> x.over(v[0], v[1], v[2]), row(30, 0, 0), row(799, 5, 60), row(30, 1, 5));
        kind("29 absent", (x, v) -> x.absent(v[0], v[1], true), row(30, 0), row(799, 5), row(30, 1));
        kind("29 absent not", (x, v) -> x.absent(v[0], v[1], false), row(30, 0), row(799, 5), row(30, 1));
        kind("30 comes", (x, v) -> x.comes(v[0], v[1], v[2]), row(30, 0, 0), row(799, 14, 799), row(30, 1, 5));
        kind("31 away", (x, v) -> x.away(v[0], v[1], v[2], v[3]), row(30, 0, 0, 0), row(799, 9, 799, 799), row(30, 1, 5, 5));
        kind("32 meeting", (x, v) -> x.meeting(v[0], v[1], v[2]), row(0, 0, 0), row(5, 799, 3), row(1, 30, 0));
        kind("33 off", (x, v) -> x.off(v[0]), row(0), row(799), row(5));
        kind("34 next", (x, v) -> x.next(v[0], v[1]), row(0, 0), row(14, 799), row(1, 5));
        kind("35 messages", (x, v) -> x.messages(v[0]), row(0), row(14), row(1));
        kind("36 mend", (x, v) -> x.mend(v[0]), row(0), row(799), row(30));
        kind("38 let", (x, v) -> x.let(v[0], v[1], true), row(0, 0), row(5, 9), row(2, 7));
        kind("38 let not", (x, v) -> x.let(v[0], v[1], false), row(0, 0), row(5, 9), row(2, 1));
        kind("39 read", (x, v) -> x.read(v[0], v[1], v[2]), row(0, 0, Integer.MIN_VALUE), row(9, 5, Integer.MAX_VALUE), row(0, 0, 0));
    }

    // ---- the desks

    private static void people(ParentEve x) {
        Check.rules(x, "slot 7; floor 3; late 9; rest 3; apart 1;");
        Check.policy(x, 1, "when late above 3 and here is 0 do swap;when must is 1 do short 5;");
        Check.policy(x, 2, "when late above 2;");
        x.follow(0, 1);
        x.room(1, 4, 2);
        x.teacher(1, 0, 9);
        x.family(1, 1, 18, 2);
        x.family(2, 0, 18, 2);
        x.wish(0, 2, 5, 4);
        x.wish(1, 3, 5, 6);
        x.apart(0, 2, true);
        x.habit(0, 3);
        x.ask(0, 0, true);
        x.ask(0, 1, false);
        x.ask(1, 0, false);
        x.ask(1, 1, true);
        x.ask(2, 0, false);
        x.ask(2, 1, true);
        Check.note(x, 0, "Anna, 7");
        Check.note(x, 2, "anna");
        x.let(2, 1, true);
        Check.find(x, 0, "ANNA");
        Check.feed(x, "tape here");
    }

    private static void laid(ParentEve x) {
        people(x);
        CHECK.due("ready: lay", x.lay(0, 2) + x.lay(2, 4) + x.lay(3, 7) + x.lay(4, 5), 4);
    }

    private static void evening(ParentEve x) {
        laid(x);
        x.lay(1, 8);
        CHECK.due("ready: begin", x.begin(), 5);
        x.over(3, 0, 4);
        x.absent(20, 4, true);
        x.comes(20, 1, 40);
        CHECK.due("ready: tellings", x.away(30, 1, 50, 60), 4);
    }

    // ---- all that can be asked

    private static List<Integer> answers(ParentEve x, int minute) {
        List<Integer> all = new ArrayList<>();
        for (int i = -1; i < 15; i++) all.add(x.count(i));
        for (int i = 0; i < 6; i++) all.add(x.rule(i));
        all.add(x.fault(0));
        all.add(x.fault(1));
        for (int i = 0; i < 4; i++) all.add(x.found(i));
        // the tape, read as far as a NOTE goes, in ASK 5's place
        all.add(x.end(Math.min(60, x.count(7))));
        all.add(x.note(5));
        for (int i = 0; i < 10; i++) all.add(x.read(1, 5, i));
        for (int i = 0; i < 8; i++) all.add(x.read(0, 0, i));
        all.add(x.read(1, 2, 3));
        for (int t = 0; t < 10; t++) all.add(x.foretold(t));
        for (int i = 0; i < 4; i++) all.add(x.value(i));
        for (int f = 0; f < 4; f++) all.add(x.waits(f));
        for (int a = 0; a < 7; a++) {
            for (int what = 0; what < 4; what++) all.add(x.about(a, what));
            for (int s = 0; s < 20; s += 1 + a % 3) all.add(x.may(a, s));
        }
        for (int t = 0; t < 5; t++) all.add(x.walk(t, t + 1));
        for (int m : new int[] {2, minute, 799}) {
            for (int a = 0; a < 6; a++) {
                all.add(x.meeting(a, m, 0));
                all.add(x.meeting(a, m, 1));
            }
            all.add(x.off(m));
        }
        for (int f = 0; f < 4; f++) {
            all.add(x.next(f, 5));
            all.add(x.messages(f));
        }
        changes(x, minute, all);
        return all;
    }

    /** Calls that change something: what they answer, and what is then, tells what can't be asked for. */
    private static void changes(ParentEve x, int minute, List<Integer> all) {
        for (int a = 0; a < 6; a++) for (int t = 1; t < 9; t += 3) all.add(x.let(a, t, true));
        all.add(x.apart(0, 1, true));
        all.add(x.apart(0, 2, true));
        all.add(x.layAll());
        all.add(x.settle());
        all.add(x.value(3));
        for (int a = 0; a < 6; a++) all.add(x.about(a, 3));
        all.add(x.ask(7, 7, false));
        all.add(x.over(minute, 0, 5));
        all.add(x.over(minute - 1, 0, 5));
        all.add(x.begin());
        for (int f = 0; f < 3; f++) all.add(x.comes(minute, f, 9));
        for (int a = 0; a < 6; a++) all.add(x.meeting(a, 799, 0));
        for (int t = 0; t < 10; t++) all.add(x.follow(t, -1));
        for (int t = 0; t < 10; t += 3) all.add(x.habit(t, 7));
        for (int a = 0; a < 6; a++) all.add(x.meeting(a, 799, 1));
    }

    private static void leaves(String name, Setup setup, Setup refused, int minute) {
        ParentEve one = new ParentEve(), other = new ParentEve();
        setup.on(one);
        setup.on(other);
        refused.on(one);
        List<Integer> got = answers(one, minute), want = answers(other, minute);
        CHECK.due(name + ": calls on one desk, with 200 ahead", got.size() + 200 <= CALLS_MOST ? 1 : 0, 1);
        for (int i = 0; i < want.size(); i++) CHECK.due(name + ", answer " + i + " behind it", got.get(i), want.get(i));
    }

    private static void refused(String name, Setup setup, Call call, int[] v, int due) {
        leaves(name, setup, x -> CHECK.due(name, call.on(x, v), due), 30);
    }

    // ---- who refuses what

    private static void everywhere(String name, Call call, int[] v, int due) {
        refused(name + ", nothing laid", RefusedTest::people, call, v, due);
        refused(name + ", some laid", RefusedTest::laid, call, v, due);
        refused(name + ", in the evening", RefusedTest::evening, call, v, due);
    }

    /** Each number a little, and far, out of its bounds: RANGE, whatever the STATE. */
    private static void ranges() {
        for (Kind k : KINDS) {
            for (int i = 0; i < k.plain.length; i++) {
                for (int bad : new int[] {k.least[i] - 1, k.most[i] + 1, Integer.MIN_VALUE, Integer.MAX_VALUE}) {
                    if (bad >= k.least[i] && bad <= k.most[i]) continue;
                    // minutes of TELLINGS may be from 0 on ahead of THE EVENING
                    boolean early = bad == 29 && k.least[i] == 30;
                    int[] v = k.plain.clone();
                    v[i] = bad;
                    String name = k.name + ", number " + i + " is " + bad;
                    if (early) refused(name, RefusedTest::evening, k.call, v, RANGE);
                    else everywhere(name, k.call, v, RANGE);
                }
                for (int good : new int[] {k.least[i], k.most[i]}) {
                    if (k.name.startsWith("39") && i == 2) continue;
                    int[] v = k.plain.clone();
                    v[i] = good;
                    // from .. to: the other end goes with it
                    boolean span = k.name.startsWith("10") || k.name.startsWith("11") || k.name.startsWith("12");
                    if (span && i == 1 && good == 19) v[2] = 19;
                    if (span && i == 2 && good == 0) v[1] = 0;
                    if (k.name.startsWith("31") && i == 2 && good == 799) v[3] = 799;
                    if (k.name.startsWith("31") && i == 3 && good == 0) v[2] = 0;
                    taken(k, v);
                }
            }
        }
    }

    private static void taken(Kind k, int[] v) {
        Setup[] setups = {RefusedTest::people, RefusedTest::laid, RefusedTest::evening};
        for (Setup setup : setups) {
            ParentEve x = new ParentEve();
            setup.on(x);
            int got = k.call.on(x, v);
            CHECK.due(k.name + " with a last number that is allowed isn't RANGE", got == RANGE ? 1 : 0, 0);
        }
    }

    /** from above to, and FAMILIES that are one. */
    private static void spans() {
        everywhere("10 from above to", (x, v) -> x.teacher(2, 4, 3), row(), RANGE);
        everywhere("10 from above to", (x, v) -> x.teacher(2, 19, 0), row(), RANGE);
        everywhere("11 from above to", (x, v) -> x.family(2, 4, 3, 0), row(), RANGE);
        everywhere("12 from above to", (x, v) -> x.wish(2, 4, 3, 0), row(), RANGE);
        everywhere("31 from above to", (x, v) -> x.away(30, 1, 6, 5), row(), RANGE);
        for (int f = 0; f < 15; f += 7) {
            int one = f;
            everywhere("13 a family apart from itself", (x, v) -> x.apart(one, one, true), row(), RANGE);
            everywhere("13 a family not apart from itself", (x, v) -> x.apart(one, one, false), row(), RANGE);
        }
    }

    private static void settledPlace(String name, Call call) {
        refused(name + ", some laid", RefusedTest::laid, call, row(), STATE);
        refused(name + ", in the evening", RefusedTest::evening, call, row(), STATE);
    }

    private static void states() {
        settledPlace("9", (x, v) -> x.room(2, 5, 5));
        settledPlace("10", (x, v) -> x.teacher(0, 4, 6));
        settledPlace("11", (x, v) -> x.family(0, 4, 6, 2));
        settledPlace("12", (x, v) -> x.wish(0, 4, 6, 9));
        settledPlace("13", (x, v) -> x.apart(0, 1, true));
        settledPlace("13 no more", (x, v) -> x.apart(0, 2, false));
        refused("15 the pair has one", RefusedTest::people, (x, v) -> x.ask(0, 0, false), row(), STATE);
        refused("15 the pair has one, laid", RefusedTest::laid, (x, v) -> x.ask(0, 0, false), row(), STATE);
        refused("16 it is laid", RefusedTest::laid, (x, v) -> x.may(0, 9), row(), STATE);
        refused("16 it is laid there", RefusedTest::laid, (x, v) -> x.may(0, 2), row(), STATE);
        refused("16 it is laid, in the evening", RefusedTest::evening, (x, v) -> x.may(0, 9), row(), STATE);
        refused("17 it is laid", RefusedTest::laid, (x, v) -> x.lay(0, 9), row(), STATE);
        refused("17 it may not", RefusedTest::laid, (x, v) -> x.lay(1, 2), row(), 0);
        refused("18 it isn't laid", RefusedTest::laid, (x, v) -> x.lift(1), row(), STATE);
        refused("20 one is laid", RefusedTest::laid, (x, v) -> x.best(2 | 1), row(), STATE);
        refused("20 the last of four is laid", RefusedTest::laid, (x, v) -> x.best(2 | 16 | 32), row(), STATE);
        Call[] asks = {(x, v) -> x.ask(7, 7, true), (x, v) -> x.lay(5, 12), (x, v) -> x.lift(0), (x, v) -> x.layAll(),
            (x, v) -> x.best(32), (x, v) -> x.settle()};
        for (int i = 0; i < asks.length; i++) refused("15 to 21, " + i, RefusedTest::evening, asks[i], row(), STATE);
        refused("27 it has begun", RefusedTest::evening, (x, v) -> x.begin(), row(), STATE);
        refused("28 not laid", RefusedTest::evening, (x, v) -> x.over(30, 5, 1), row(), STATE);
        refused("29 not laid", RefusedTest::evening, (x, v) -> x.absent(30, 5, true), row(), STATE);
        refused("32 not laid", RefusedTest::evening, (x, v) -> x.meeting(5, 30, 0), row(), STATE);
        Call[] evening = {(x, v) -> x.over(30, 0, 1), (x, v) -> x.absent(30, 0, true), (x, v) -> x.comes(30, 0, 1),
            (x, v) -> x.away(30, 0, 1, 2), (x, v) -> x.meeting(0, 30, 0), (x, v) -> x.off(30), (x, v) -> x.next(0, 30),
            (x, v) -> x.messages(0), (x, v) -> x.mend(30)};
        for (int i = 0; i < evening.length; i++) {
            refused("28 to 36, " + i + ", not begun", RefusedTest::laid, evening[i], row(), STATE);
            refused("28 to 36, " + i + ", nothing laid", RefusedTest::people, evening[i], row(), STATE);
        }
    }

    /** What there is not: NONE, or -9. */
    private static void others() {
        for (int bad : new int[] {-1, 6, Integer.MIN_VALUE, Integer.MAX_VALUE}) {
            everywhere("5 what " + bad, (x, v) -> x.rule(v[0]), row(bad), -9);
        }
        for (int bad : new int[] {-1, 2, Integer.MIN_VALUE, Integer.MAX_VALUE}) {
            everywhere("8 what " + bad, (x, v) -> x.fault(v[0]), row(bad), -1);
        }
        for (int bad : new int[] {-1, 4, Integer.MIN_VALUE, Integer.MAX_VALUE}) {
            everywhere("22 what " + bad, (x, v) -> x.about(0, v[0]), row(bad), -9);
            everywhere("24 what " + bad, (x, v) -> x.value(v[0]), row(bad), -1);
        }
        for (int bad : new int[] {-1, 6, Integer.MIN_VALUE, Integer.MAX_VALUE}) {
            everywhere("22 ask " + bad, (x, v) -> x.about(v[0], 0), row(bad), -9);
        }
        for (int bad : new int[] {-1, 10, Integer.MIN_VALUE, Integer.MAX_VALUE}) {
            everywhere("3 end at " + bad, (x, v) -> x.end(v[0]), row(bad), -1);
        }
        for (int bad : new int[] {-1, 7, Integer.MIN_VALUE, Integer.MAX_VALUE}) {
            everywhere("39 byte " + bad, (x, v) -> x.read(0, 0, v[0]), row(bad), -1);
        }
        everywhere("39 may not", (x, v) -> x.read(1, 0, 0), row(), -1);
        everywhere("39 no note", (x, v) -> x.read(0, 4, 0), row(), -1);
        for (int bad : new int[] {-1, 2, Integer.MIN_VALUE, Integer.MAX_VALUE}) {
            everywhere("41 ask " + bad, (x, v) -> x.found(v[0]), row(bad), -1);
        }
        for (int bad : new int[] {-1, 9, 14, Integer.MIN_VALUE, Integer.MAX_VALUE}) {
            everywhere("42 what " + bad, (x, v) -> x.count(v[0]), row(bad), -1);
        }
    }

    private static void fullTape(ParentEve x) {
        people(x);
        while (x.count(7) + 20 <= 400) x.feed(0x61626364, 0x65666768, 0x696a6b6c, 0x6d6e6f70, 0x71727374);
    }

    private static void fullHabits(ParentEve x) {
        people(x);
        for (int i = 0; i < 20; i++) x.habit(2, i);
    }

    private static void fullTellings(ParentEve x) {
        evening(x);
        for (int i = 5; i <= 80; i++) CHECK.due("ready: telling", x.over(30, i % 4, i % 7), i);
    }

    private static void full() {
        refused("2 no room", RefusedTest::fullTape, (x, v) -> x.feed(1, 2, 3, 4, 5), row(), FULL);
        refused("20 more than four", RefusedTest::people, (x, v) -> x.best(31), row(), FULL);
        refused("20 all", RefusedTest::people, (x, v) -> x.best(63), row(), FULL);
        refused("25 the twenty-first", RefusedTest::fullHabits, (x, v) -> x.habit(2, 60), row(), FULL);
        refused("25 range ahead of full", RefusedTest::fullHabits, (x, v) -> x.habit(2, 61), row(), RANGE);
        refused("28 the eighty-first", RefusedTest::fullTellings, (x, v) -> x.over(30, 0, 9), row(), FULL);
        refused("29 the eighty-first", RefusedTest::fullTellings, (x, v) -> x.absent(30, 0, true), row(), FULL);
        refused("30 the eighty-first", RefusedTest::fullTellings, (x, v) -> x.comes(30, 0, 300), row(), FULL);
        refused("31 the eighty-first", RefusedTest::fullTellings, (x, v) -> x.away(30, 0, 0, 300), row(), FULL);
        refused("28 state ahead of full", RefusedTest::fullTellings, (x, v) -> x.over(30, 5, 9), row(), STATE);
        refused("28 range ahead of full", RefusedTest::fullTellings, (x, v) -> x.over(29, 0, 9), row(), RANGE);
        refused("36 five are missed", RefusedTest::fiveMissed, (x, v) -> x.mend(30), row(), FULL);
        leaves("15 the forty-first", RefusedTest::fullAsks, x -> CHECK.due("15 the forty-first", x.ask(14, 9, true), FULL), 30);
        leaves("15 the pair ahead of full", RefusedTest::fullAsks, x -> CHECK.due("15 the pair", x.ask(14, 0, true), STATE), 30);
    }

    private static void fiveMissed(ParentEve x) {
        evening(x);
        for (int a = 0; a < 5; a++) x.absent(30, a, true);
        CHECK.due("ready: five are missed", x.count(5), 5);
    }

    private static void fullAsks(ParentEve x) {
        people(x);
        for (int i = 0; x.count(0) < 40; i++) x.ask(14 - i % 12, i / 12, false);
    }

    /** A call that reads the tape and is refused leaves all but the tape, which is empty then. */
    private static void tape(String name, Setup setup, String text, Call call, int due) {
        ParentEve one = new ParentEve(), other = new ParentEve();
        setup.on(one);
        setup.on(other);
        one.end(0);
        other.end(0);
        Check.feed(one, text);
        CHECK.due(name, call.on(one), due);
        CHECK.due(name + ": bytes of the tape", one.count(7), 0);
        List<Integer> got = answers(one, 30), want = answers(other, 30);
        for (int i = 0; i < want.size(); i++) CHECK.due(name + ", answer " + i + " behind it", got.get(i), want.get(i));
    }

    private static void tapes() {
        String policy = "when here is 1 do skip;", fault = "when here";
        Setup[] setups = {RefusedTest::people, RefusedTest::laid, RefusedTest::evening};
        for (int i = 0; i < 3; i++) {
            for (int bad : new int[] {-1, 4, Integer.MIN_VALUE, Integer.MAX_VALUE}) {
                tape("6 no policy " + bad, setups[i], policy, (x, v) -> x.policy(bad), RANGE);
                tape("6 no policy " + bad + ", no text", setups[i], fault, (x, v) -> x.policy(bad), RANGE);
            }
            for (int bad : new int[] {-1, 6, 40, Integer.MIN_VALUE, Integer.MAX_VALUE}) {
                tape("37 no ask " + bad, setups[i], "a note", (x, v) -> x.note(bad), RANGE);
            }
            for (int bad : new int[] {-1, 10, Integer.MIN_VALUE, Integer.MAX_VALUE}) {
                tape("40 no teacher " + bad, setups[i], "anna", (x, v) -> x.find(bad), RANGE);
            }
            tape("37 no byte", setups[i], "", (x, v) -> x.note(0), -1);
            tape("37 61 bytes", setups[i], "a".repeat(61), (x, v) -> x.note(0), -1);
            tape("37 byte 31", setups[i], "abc\037", (x, v) -> x.note(0), -1);
            tape("37 byte 127", setups[i], "\177abc", (x, v) -> x.note(0), -1);
            tape("37 byte 128", setups[i], "ab\200c", (x, v) -> x.note(0), -1);
            tape("40 no letter", setups[i], "", (x, v) -> x.find(1), -1);
            tape("40 21 letters", setups[i], "a".repeat(21), (x, v) -> x.find(1), -1);
            tape("40 no word", setups[i], "an na", (x, v) -> x.find(1), -1);
        }
        tape("4 some laid", RefusedTest::laid, "slot 9;", (x, v) -> x.rules(), STATE);
        tape("4 some laid, no text", RefusedTest::laid, "", (x, v) -> x.rules(), STATE);
        tape("4 in the evening", RefusedTest::evening, "slot 9;", (x, v) -> x.rules(), STATE);
        tape("4 in the evening, no text", RefusedTest::evening, "", (x, v) -> x.rules(), STATE);
        tape("6 in the evening", RefusedTest::evening, policy, (x, v) -> x.policy(1), STATE);
        tape("6 in the evening, no text", RefusedTest::evening, "", (x, v) -> x.policy(1), STATE);
    }
}
