/** The edges of THE EVENING: promises 25 to 36, and what of 42 is told of it. */
public final class EveningEdgeTest {
    private static final Check CHECK = new Check();

    public static void main(String[] args) {
        habits();
        begin();
        tellingMinutes();
        tellingNumbers();
        tellingsFull();
        knownFrom();
        overs();
        latestHolds();
        house();
        awayMinutes();
        lateMinutes();
        walkMinutes();
        meetingEnds();
        anyOrder();
        factEdges();
        actEdges();
        policyStays();
        oneLook();
        lastMinute();
        meetingWhats();
        off();
        next();
        messages();
        mendMany();
        mendSlots();
        mendRows();
        fortyMeetings();
        CHECK.end("EveningEdgeTest");
    }

    private static void due(String call, long got, long want) {
        CHECK.due(call, got, want);
    }

    private static void starts(String name, ParentEve x, int minute, int... row) {
        for (int a = 0; a < row.length; a++) due(name + ", start of " + a, x.meeting(a, minute, 0), row[a]);
    }

    /** Teacher 0 meets families 0 .. n - 1 in SLOTS from one on; family 1's is a MUST. */
    private static ParentEve row(String rules, String policy, int n, int from) {
        ParentEve x = new ParentEve();
        Check.rules(x, rules);
        Check.policy(x, 0, policy);
        x.follow(0, 0);
        for (int f = 0; f < n; f++) {
            due("ready: ask", x.ask(f, 0, f == 1), f);
            due("ready: lay", x.lay(f, from + f), 1);
        }
        due("ready: begin", x.begin(), n);
        return x;
    }

    private static ParentEve row(int n, int from) {
        return row("", "", n, from);
    }

    // ---- promises 25 to 27

    private static void habits() {
        ParentEve x = new ParentEve();
        for (int t = 0; t < 10; t += 9) {
            due("26 without", x.foretold(t), 0);
            due("25 the least", x.habit(t, 0), 1);
            due("26 of one", x.foretold(t), 0);
            due("25 the greatest", x.habit(t, 60), 2);
            due("26 the lesser one of two", x.foretold(t), 0);
            due("25 a third", x.habit(t, 60), 3);
            due("26 of three", x.foretold(t), 60);
            due("25 a fourth", x.habit(t, 59), 4);
            due("26 the lesser one of two", x.foretold(t), 59);
            for (int i = 5; i <= 20; i++) due("25 habit " + i, x.habit(t, i), i);
            // 0 5 6 7 8 9 10 11 12 13 | 14 15 16 17 18 19 20 59 60 60
            due("26 of twenty", x.foretold(t), 13);
            due("25 the twenty-first", x.habit(t, 1), -3);
            due("25 61 of a full row", x.habit(t, 61), -2);
            due("26 stays", x.foretold(t), 13);
        }
        due("26 of another", x.foretold(5), 0);
        due("25 -1", x.habit(5, -1), -2);
        due("25 61", x.habit(5, 61), -2);
        due("25 teacher -1", x.habit(-1, 5), -2);
        due("25 teacher 10", x.habit(10, 5), -2);
        due("26 teacher -1", x.foretold(-1), -2);
        due("26 teacher 10", x.foretold(10), -2);
        due("25 none came", x.habit(5, 1), 1);
        x.begin();
        due("25 in the evening", x.habit(5, 3), 2);
        due("26 in the evening", x.foretold(5), 1);
        x = new ParentEve();
        x.ask(0, 0, false);
        x.lay(0, 0);
        due("25 with one laid", x.habit(0, 9), 1);
        x.begin();
        due("32 foretold", x.meeting(0, 0, 3), 19);
    }

    private static void begin() {
        ParentEve x = new ParentEve();
        due("42 not begun", x.count(3), 0);
        due("27 no asks", x.begin(), 0);
        due("42 begun", x.count(3), 1);
        due("27 it has", x.begin(), -4);
        due("42 begun still", x.count(3), 1);
        x = new ParentEve();
        for (int a = 0; a < 40; a++) x.ask(a % 15, a / 15, false);
        due("19 all", x.layAll(), 40);
        due("27 forty", x.begin(), 40);
        due("42 none missed", x.count(5), 0);
        // the last is laid in slot 15
        due("42 last end", x.count(6), 160);
        x = new ParentEve();
        x.ask(0, 0, false);
        due("27 an ask, not laid", x.begin(), 0);
    }

    // ---- promises 28 to 31

    private static int tell(ParentEve x, int kind, int minute) {
        switch (kind) {
            case 0: return x.over(minute, 0, 3);
            case 1: return x.absent(minute, 0, true);
            case 2: return x.comes(minute, 0, 3);
            default: return x.away(minute, 0, 3, 3);
        }
    }

    /** Minutes 0 .. 799, none below that of the latest one. */
    private static void tellingMinutes() {
        for (int first = 0; first < 4; first++) {
            for (int then = 0; then < 4; then++) {
                String name = "28 to 31, kinds " + first + " " + then;
                ParentEve x = row(1, 0);
                due(name + ": -1", tell(x, then, -1), -2);
                due(name + ": 0", tell(x, first, 0), 1);
                due(name + ": 0 again", tell(x, then, 0), 2);
                due(name + ": -1 behind 0", tell(x, then, -1), -2);
                due(name + ": 400", tell(x, first, 400), 3);
                due(name + ": 399", tell(x, then, 399), -2);
                due(name + ": 0", tell(x, then, 0), -2);
                due(name + ": 400 again", tell(x, then, 400), 4);
                due(name + ": 800", tell(x, then, 800), -2);
                due(name + ": 799", tell(x, first, 799), 5);
                due(name + ": 798", tell(x, then, 798), -2);
                due(name + ": 800", tell(x, then, 800), -2);
                due(name + ": 799 again", tell(x, then, 799), 6);
                due("42 tellings", x.count(4), 6);
            }
        }
        // what is refused is no latest one
        ParentEve x = row(1, 0);
        due("28 a refused one", x.over(700, 0, 61), -2);
        due("28 a refused one", x.over(700, 1, 6), -2);
        due("28 not below it", x.over(10, 0, 6), 1);
    }

    private static void tellingNumbers() {
        ParentEve x = row(2, 0);
        due("28 the least", x.over(0, 0, 0), 1);
        due("28 the greatest, of the last ask", x.over(0, 1, 60), 2);
        due("28 61", x.over(0, 1, 61), -2);
        due("28 -1", x.over(0, 1, -1), -2);
        due("28 ask 2", x.over(0, 2, 0), -2);
        due("28 ask -1", x.over(0, -1, 0), -2);
        due("29 the first ask", x.absent(0, 0, false), 3);
        due("29 the last ask", x.absent(0, 1, false), 4);
        due("29 ask 2", x.absent(0, 2, false), -2);
        due("29 ask -1", x.absent(0, -1, true), -2);
        due("30 the least", x.comes(0, 0, 0), 5);
        due("30 the greatest", x.comes(0, 14, 799), 6);
        due("30 family 15", x.comes(0, 15, 0), -2);
        due("30 family -1", x.comes(0, -1, 0), -2);
        due("30 from 800", x.comes(0, 0, 800), -2);
        due("30 from -1", x.comes(0, 0, -1), -2);
        due("31 the least", x.away(0, 0, 0, 0), 7);
        due("31 the greatest", x.away(0, 9, 799, 799), 8);
        due("31 all minutes", x.away(0, 9, 0, 799), 9);
        due("31 teacher 10", x.away(0, 10, 0, 0), -2);
        due("31 teacher -1", x.away(0, -1, 0, 0), -2);
        due("31 from -1", x.away(0, 0, -1, 0), -2);
        due("31 to 800", x.away(0, 0, 799, 800), -2);
        due("31 from above to", x.away(0, 0, 1, 0), -2);
        due("42 tellings", x.count(4), 9);
        starts("32 all at once", x, 0, 1, 11);
        due("32 its end", x.meeting(1, 0, 1), 81);
    }

    private static void tellingsFull() {
        for (int kind = 0; kind < 4; kind++) {
            ParentEve x = row(1, 0);
            for (int i = 1; i < 80; i++) due("28 telling " + i, x.over(0, 0, 0), i);
            due("28 to 31, kind " + kind + ", the eightieth", tell(x, kind, 5), 80);
            for (int other = 0; other < 4; other++) {
                due("28 to 31, kind " + other + ", the eighty-first", tell(x, other, 5), -3);
                due("28 to 31, kind " + other + ", minute below", tell(x, other, 4), -2);
            }
            due("28 full, a later minute", x.over(799, 0, 0), -3);
            due("28 full, n is 61", x.over(799, 0, 61), -2);
            due("42 tellings", x.count(4), 80);
            int start = kind == 1 ? -1 : kind == 2 ? 3 : 0;
            due("32 the eightieth is known", x.meeting(0, 5, 0), start);
            due("32 from its minute on", x.meeting(0, 4, 0), 0);
            due("32 the eightieth is known", x.meeting(0, 5, 3), kind == 0 ? 13 : kind == 1 ? 0 : 10);
        }
    }

    /** KNOWN from its minute on, not a minute ahead. */
    private static void knownFrom() {
        for (int minute : new int[] {0, 1, 400, 798, 799}) {
            ParentEve x = row(2, 0);
            x.over(minute, 0, 5);
            if (minute > 0) due("32 a minute ahead of " + minute, x.meeting(1, minute - 1, 0), 10);
            due("32 ahead of " + minute, x.meeting(1, 0, 0), minute == 0 ? 15 : 10);
            due("32 at " + minute, x.meeting(1, minute, 0), 15);
            due("32 at 799", x.meeting(1, 799, 0), 15);
            due("42 last end, as known at 799", x.count(6), 25);
            due("33 at " + minute, x.off(minute), 0);
            due("33 at 0, as known at 799", x.off(0), minute == 0 ? 0 : 5);
        }
    }

    // ---- promise 32

    private static void overs() {
        int[] slots = {1, 10, 30};
        for (int slot : slots) {
            ParentEve x = row("slot " + slot + ";", "", 2, 0);
            x.over(0, 0, 0);
            due("32 slot minutes", x.meeting(0, 0, 3), slot);
            x.over(1, 0, 60);
            due("32 and 60", x.meeting(0, 1, 3), slot + 60);
            due("32 the next", x.meeting(1, 1, 0), slot + 60);
            x.habit(0, 7);
            due("32 known, not foretold", x.meeting(0, 0, 3), slot);
            due("32 foretold", x.meeting(1, 0, 3), slot + 7);
        }
        // an OVER of 0 is KNOWN, too
        ParentEve x = row(1, 0);
        x.habit(0, 9);
        x.over(5, 0, 0);
        due("32 foretold", x.meeting(0, 4, 3), 19);
        due("32 known to be 0", x.meeting(0, 5, 3), 10);
    }

    private static void latestHolds() {
        ParentEve x = row("late 99;", "", 2, 0);
        x.over(3, 0, 9);
        x.over(3, 1, 7);
        x.over(3, 0, 2);
        starts("32 the latest told at a minute", x, 3, 0, 12);
        due("32 of another meeting", x.meeting(1, 3, 3), 17);
        x.absent(4, 1, true);
        x.absent(4, 1, false);
        due("32 does come", x.meeting(1, 4, 2), 0);
        x.absent(4, 1, true);
        due("32 doesn't", x.meeting(1, 4, 2), 1);
        x.absent(5, 0, true);
        due("32 of another meeting", x.meeting(1, 5, 2), 1);
        x.comes(6, 1, 50);
        x.comes(6, 0, 60);
        x.absent(6, 0, false);
        x.absent(6, 1, false);
        x.comes(6, 0, 4);
        starts("32 the latest of each family", x, 6, 4, 50);
        // of AWAY all: apart, side by side, one in the other
        x = row(1, 0);
        x.away(0, 0, 10, 20);
        x.away(0, 0, 0, 4);
        starts("32 up to 4", x, 0, 5);
        x.away(1, 0, 5, 9);
        starts("32 up to 20", x, 1, 21);
        x.away(2, 0, 0, 2);
        starts("32 up to 20 still", x, 2, 21);
        x.away(3, 0, 22, 23);
        starts("32 a minute between", x, 3, 21);
        x.away(4, 0, 20, 22);
        starts("32 up to 23", x, 4, 24);
        starts("32 as known ahead", x, 0, 5);
    }

    /** In the house from a minute on; at first from that of its first SLOT. */
    private static void house() {
        for (int from = 0; from < 20; from += 19) {
            ParentEve x = new ParentEve();
            Check.rules(x, "slot 3; late 99;");
            Check.policy(x, 0, "when slot below " + from + " do swap;");
            x.follow(0, 0);
            x.family(0, from, 19, 0);
            x.ask(0, 0, false);
            x.lay(0, 19);
            x.begin();
            due("32 first slot " + from, x.meeting(0, 0, 0), 57);
        }
        // met by a swap ahead of its SLOT, but not ahead of its first one
        for (int first = 0; first < 6; first++) {
            ParentEve x = new ParentEve();
            Check.policy(x, 0, "when here is 0 do swap;");
            x.follow(0, 0);
            x.family(1, first, 19, 0);
            x.ask(0, 0, false);
            x.ask(1, 0, false);
            x.lay(0, 2);
            x.lay(1, 9);
            x.begin();
            x.absent(0, 0, true);
            due("32 first slot " + first, x.meeting(1, 0, 0), Math.max(20, first * 10));
        }
        for (int from : new int[] {0, 9, 10, 11, 25, 26, 27}) {
            ParentEve x = row(1, 1);
            x.comes(0, 0, from);
            due("32 comes at " + from, x.meeting(0, 0, 0), from > 26 ? -1 : Math.max(10, from));
        }
    }

    /** AWAY in minutes from .. to, both with it. */
    private static void awayMinutes() {
        int[][] cases = {{0, 0, 1}, {0, 1, 2}, {1, 5, 0}, {0, 799, -1}, {799, 799, 0}, {0, 798, 799}, {0, 15, 16}, {0, 16, 17}};
        for (int[] one : cases) {
            ParentEve x = row(1, 0);
            x.away(0, 0, one[0], one[1]);
            starts("32 away " + one[0] + " to " + one[1], x, 0, one[2]);
        }
        // what goes on goes on; the next one only from behind it
        ParentEve x = row(2, 0);
        x.away(0, 0, 1, 9);
        starts("32 away while it goes on", x, 0, 0, 10);
        x.away(1, 0, 10, 10);
        starts("32 away at its end", x, 1, 0, 11);
        x.away(2, 1, 11, 99);
        starts("32 another teacher", x, 2, 0, 11);
        // absent and away: missed by a look, and there is none while away
        x = row(2, 0);
        x.absent(0, 0, true);
        x.away(0, 0, 10, 30);
        starts("32 first look at 31", x, 0, -1, 32);
        x = row(2, 0);
        x.absent(0, 0, true);
        x.away(0, 0, 17, 30);
        starts("32 a look at 16", x, 0, -1, 31);
    }

    /** More than late minutes behind its SLOT's minute. */
    private static void lateMinutes() {
        for (int late : new int[] {0, 1, 15, 98, 99}) {
            ParentEve x = row("late " + late + ";", "", 2, 1);
            x.comes(0, 0, 10 + late);
            starts("32 just " + late, x, 0, 10 + late, Math.max(20, 20 + late));
            x.comes(1, 0, 11 + late);
            starts("32 one more than " + late + ", here then", x, 1, 11 + late, Math.max(20, 21 + late));
            x.comes(2, 0, 12 + late);
            due("32 two more than " + late, x.meeting(0, 2, 2), 1);
            starts("32 then the next", x, 2, -1, Math.max(20, 12 + late));
        }
    }

    /** Time for the WALK from the latest TEACHER since that ended. */
    private static void walkMinutes() {
        for (int door = 0; door <= 20; door += 5) {
            ParentEve x = new ParentEve();
            Check.rules(x, "slot 10; late 30; door " + door + ";");
            x.room(1, 1, 0);
            x.ask(0, 0, false);
            x.ask(0, 1, false);
            x.lay(0, 0);
            x.lay(1, 4);
            x.begin();
            x.over(0, 0, 30 - door);
            starts("32 just in time, door " + door, x, 0, 0, 40);
            x.over(1, 0, 31 - door);
            starts("32 a minute late, door " + door, x, 1, 0, 41);
        }
        // from the latest teacher, whatever the numbers of the ASKS
        for (int far = 0; far < 3; far++) {
            ParentEve x = new ParentEve();
            Check.rules(x, "slot 10; late 99; floor 4; door 1;");
            x.room(far, 0, 5);
            x.ask(0, 2, false);
            x.ask(0, 1, false);
            x.ask(0, 0, false);
            x.lay(2, 0);
            x.lay(1, 4);
            x.lay(0, 8);
            due("ready: laid", x.count(1), 3);
            x.begin();
            x.over(0, 1, 35);
            // behind 85, a walk of 21 minutes but from 1 to 2 if 0 is far off
            starts("32 far is " + far, x, 0, far == 0 ? 85 : 106, 40, 0);
        }
        // no teacher ahead: no walk
        ParentEve x = new ParentEve();
        Check.rules(x, "floor 20;");
        x.room(9, 9, 9);
        x.ask(0, 9, false);
        x.lay(0, 0);
        x.begin();
        starts("32 the first one", x, 0, 0);
    }

    /** In a MEETING up to the minute ahead of its end: TEACHER, FAMILY, INTERPRETER. */
    private static void meetingEnds() {
        for (int over = 0; over < 3; over++) {
            ParentEve x = new ParentEve();
            x.family(1, 0, 19, 1);
            x.family(2, 0, 19, 1);
            x.ask(1, 3, false);
            x.ask(0, 3, false);
            x.ask(1, 4, false);
            x.ask(2, 5, false);
            x.lay(0, 0);
            x.lay(1, 1);
            x.lay(2, 1);
            due("ready: lay", x.lay(3, 2), 1);
            x.begin();
            x.over(0, 0, over);
            x.over(0, 2, over);
            starts("32 teacher and family, over " + over, x, 0, 0, 10 + over, 10 + over);
            due("32 the interpreter, over " + over, x.meeting(3, 0, 0), 20 + 2 * over);
            due("42 last end", x.count(6), 30 + 2 * over);
        }
        // two in the same minute: the lesser TEACHER's begins, the other's waits for the INTERPRETER
        ParentEve x = new ParentEve();
        Check.rules(x, "late 99;");
        x.family(0, 0, 19, 3);
        x.family(1, 0, 19, 3);
        x.ask(0, 9, false);
        x.ask(1, 0, false);
        x.lay(0, 0);
        x.lay(1, 1);
        x.begin();
        x.comes(0, 0, 10);
        starts("32 teachers by number", x, 0, 20, 10);
    }

    /** What is KNOWN at a minute is the same whatever was asked for ahead: later minutes, earlier ones, other calls. */
    private static void anyOrder() {
        int[][] orders = {{0, 10, 20, 30, 799}, {799, 30, 20, 10, 0}, {20, 0, 799, 10, 30}, {30, 30, 0, 0, 20, 10, 799}};
        for (int[] order : orders) {
            ParentEve x = new ParentEve();
            Check.rules(x, "door 4; late 40;");
            Check.policy(x, 0, "when late is 0 do pause 3;");
            x.room(1, 1, 0);
            x.family(0, 0, 19, 2);
            x.family(1, 0, 19, 2);
            x.ask(0, 0, false);
            x.ask(0, 1, false);
            x.ask(1, 2, false);
            x.ask(2, 2, false);
            x.lay(0, 0);
            x.lay(1, 2);
            x.lay(2, 1);
            due("ready: lay", x.lay(3, 2), 1);
            x.begin();
            x.over(10, 0, 7);
            x.absent(20, 2, true);
            x.comes(30, 0, 15);
            x.away(30, 1, 0, 41);
            for (int minute : order) {
                String name = "32 known at " + minute;
                if (minute < 10) starts(name, x, minute, 0, 20, 10, 20);
                else if (minute < 20) starts(name, x, minute, 0, 27, 17, 27);
                else if (minute < 30) starts(name, x, minute, 0, 21, -1, 52);
                else starts(name, x, minute, 15, 42, -1, 52);
            }
            x.follow(0, 0);
            starts("32 with a policy", x, 0, 3, 23, 13, 23);
            x.habit(2, 1);
            starts("32 with a habit", x, 0, 3, 24, 13, 24);
            x.follow(0, -1);
            starts("32 without", x, 0, 0, 21, 10, 21);
        }
    }

    private static void under(String policy, int... row) {
        ParentEve x = row("", policy, 3, 0);
        x.comes(0, 0, 12);
        starts("32 '" + policy + "'", x, 0, row);
    }

    private static void factEdges() {
        // family 0 comes at 12; 1 and 2 are there
        under("when late above 999 do skip;", 12, 22, 32);
        under("when late below 999 do skip;", -1, -1, -1);
        under("when late above 10 and late below 12 do skip;", -1, 12, 22);
        under("when late above 11 and late below 12 do skip;", 12, 22, 32);
        under("when late is 12 do skip;", -1, 13, 23);
        under("when late is 13 do skip;", 12, 22, 32);
        under("when slot below 1 do skip;", -1, 10, 20);
        under("when slot below 0 do skip;", 12, 22, 32);
        under("when slot above 1 do skip;", 12, 22, -1);
        under("when slot above 2 do skip;", 12, 22, 32);
        under("when slot is 1 do skip;", 12, -1, 23);
        under("when must above 0 do skip;", 12, -1, 23);
        under("when must below 1 do skip;", -1, 10, -1);
        under("when must above 1 do skip;", 12, 22, 32);
        under("when here below 1 do skip;", -1, 10, 20);
        under("when here above 0 do skip;", -1, -1, -1);
        under("when left above 2 do skip;", -1, 10, 20);
        under("when left above 3 do skip;", 12, 22, 32);
        under("when left is 1 do skip;", 12, 22, -1);
        under("when left is 0 do skip;", 12, 22, 32);
        // waiting counts the front one, and those whose SLOT's minute is u, not a minute more
        under("when waiting is 1 and slot is 0 do skip;", -1, 11, 21);
        under("when waiting is 2 do skip;", -1, 13, 23);
        under("when waiting is 3 do skip;", 12, 22, 32);
        ParentEve x = row("", "when waiting is 2 do skip;", 3, 0);
        x.comes(0, 0, 9);
        starts("32 one whose slot is a minute ahead", x, 0, 9, 19, 29);
        x.comes(1, 0, 10);
        starts("32 one whose slot is now", x, 1, -1, 11, 21);
        // left counts those whose SLOT is to come, too, and none that was begun or MISSED
        x = row("", "when left is 3 do wait;", 3, 0);
        starts("32 left three", x, 0, -1, -1, -1);
        due("42 missed", x.count(5), 3);
        // all four COND, and only then
        under("when late is 0 and here is 0 and left is 3 and slot is 0 do skip;", -1, 10, 20);
        under("when late is 0 and here is 0 and left is 3 and slot is 1 do skip;", 12, 22, 32);
        // the last of eight lines
        String no = "when slot is 9 do skip;".repeat(7);
        under(no + "when slot is 2 do skip;", 12, 22, -1);
        // POLICY 3 of teacher 9
        x = new ParentEve();
        Check.policy(x, 3, "when late below 5 do wait;");
        due("7", x.follow(9, 3), -1);
        x.ask(0, 9, false);
        x.lay(0, 0);
        x.begin();
        starts("32 policy 3 of teacher 9", x, 0, 5);
    }

    private static void actEdges() {
        // short: 1, slot less 1, slot, more than slot
        int[] shorts = {1, 9, 10, 11, 30};
        for (int n : shorts) {
            ParentEve x = row("", "when late is 0 do short " + n + ";", 1, 0);
            x.habit(0, 7);
            due("32 short " + n + " without what is foretold", x.meeting(0, 0, 3), Math.min(n, 10));
            x.over(0, 0, 8);
            due("32 short " + n, x.meeting(0, 0, 3), Math.min(n, 10));
            due("32 its end", x.meeting(0, 0, 1), Math.min(n, 10));
        }
        ParentEve x = row("slot 30;", "when late is 0 do short 30;", 1, 0);
        due("32 short 30 of 30", x.meeting(0, 0, 3), 30);
        x = row("slot 1;", "when late is 0 do short 30;", 1, 0);
        due("32 short 30 of 1", x.meeting(0, 0, 3), 1);
        // one that isn't here isn't begun by short or full
        under("when late below 12 do short 5;", 12, 22, 32);
        under("when late below 13 do short 5;", 12, 17, 22);
        under("when late below 99 do full;", 12, 22, 32);
        // pause: N minutes from u on
        int[] pauses = {1, 2, 29, 30};
        for (int n : pauses) {
            x = row("", "when late is 0 do pause " + n + ";", 1, 0);
            starts("32 pause " + n, x, 0, n);
            x = row("", "when late below " + (n + 1) + " do pause " + n + ";", 1, 0);
            starts("32 pause " + n + " twice", x, 0, 2 * n);
        }
        // swap: the first by SLOT that is HERE, not the front one; nothing if none is
        x = row("", "when late below 1 do swap;", 4, 0);
        x.absent(0, 1, true);
        starts("32 swap past one who isn't here", x, 0, 10, -1, 0, 31);
        x = row("", "when slot is 0 do swap;", 1, 0);
        starts("32 swap with nobody behind", x, 0, -1);
        x = row("", "when here is 1 and late is 0 do swap;", 2, 18);
        starts("32 swap to slot 19, whatever its minute", x, 0, 190, 180);
        due("32 swap takes slot minutes", x.meeting(1, 0, 3), 10);
        // skip: MISSED, here or not
        under("when late is 0 do skip;", -1, -1, -1);
        // wait for ever
        x = row("", "when late above 0 do wait;", 2, 0);
        x.comes(0, 0, 1);
        starts("32 wait", x, 0, -1, -1);
        // a line that holds and does nothing keeps from the plain way
        x = row("", "when here is 0 do wait;", 2, 0);
        x.comes(0, 0, 700);
        starts("32 no miss while a line holds", x, 0, 700, 710);
    }

    /** A FAULT leaves the lines as they were; a text that is told anew is followed at once; one without lines is none. */
    private static void policyStays() {
        String[] texts = {"when late is 0 do skip;when", "when late is 0 do pause 31;", "when late is 0 do skip;".repeat(9),
            "when late is 0 and late is 0 and late is 0 and late is 0 and late is 0 do skip;"};
        for (String text : texts) {
            ParentEve x = new ParentEve();
            due("6", Check.policy(x, 2, "when late below 3 do wait;when late is 3 and here is 1 do short 4;"), 2);
            x.follow(0, 2);
            x.follow(9, 2);
            due("6 a fault", Check.policy(x, 2, text), -1);
            due("42 lines", x.count(12), 2);
            x.ask(0, 0, false);
            x.ask(1, 9, false);
            x.lay(0, 1);
            x.lay(1, 2);
            x.begin();
            starts("6 stays behind '" + text + "'", x, 0, 13, 23);
            due("6 stays: minutes", x.meeting(1, 0, 3), 4);
        }
        String[] anew = {"", "when late below 5 do wait;", "when slot is 1 do skip;"};
        int[] begins = {10, 15, -1};
        for (int i = 0; i < 3; i++) {
            ParentEve x = new ParentEve();
            Check.policy(x, 2, "when late below 3 do wait;");
            x.follow(0, 2);
            Check.policy(x, 2, anew[i]);
            x.ask(0, 0, false);
            x.lay(0, 1);
            x.begin();
            starts("6 told anew: '" + anew[i] + "'", x, 0, begins[i]);
            due("7 followed still", x.follow(0, -1), 2);
            starts("7 follows none", x, 0, 10);
            due("7 none", x.follow(0, 3), -1);
            starts("7 one without lines", x, 0, 10);
        }
    }

    /** Each TEACHER looks once a minute, at the one in front, from its SLOT's minute on. */
    private static void oneLook() {
        ParentEve x = row("", "when slot below 4 do skip;", 5, 0);
        starts("32 skipped at the minutes of their slots", x, 0, -1, -1, -1, -1, 40);
        x.away(0, 0, 0, 98);
        starts("32 skipped one a minute", x, 0, -1, -1, -1, -1, 103);
        for (int slot = 0; slot < 20; slot += 19) {
            x = row(1, slot);
            starts("32 not ahead of its slot " + slot, x, 0, slot * 10);
        }
        x = row("slot 30;", "", 1, 19);
        starts("32 the last minute of a slot", x, 0, 570);
        due("42 last end", x.count(6), 600);
    }

    private static void lastMinute() {
        for (int from = 798; from < 800; from++) {
            ParentEve x = row("", "when here is 0 do wait;", 2, 0);
            x.comes(0, 0, from);
            starts("32 begun at " + from, x, 0, from, -1);
            due("32 end behind 799", x.meeting(0, 0, 1), from + 10);
            due("42 last end", x.count(6), from + 10);
            due("42 missed", x.count(5), 1);
            x.over(1, 0, 60);
            due("42 last end", x.count(6), from + 70);
            due("34 at 797", x.next(0, 797), 0);
            due("34 at 798", x.next(0, 798), from == 799 ? 0 : -1);
            due("34 at 799", x.next(0, 799), -1);
        }
        // ends at 799: the next one begins then; ends at 800: it is MISSED
        ParentEve x = row("", "when here is 0 do wait;", 2, 0);
        x.comes(0, 0, 789);
        starts("32 the next at 799", x, 0, 789, 799);
        x.over(0, 0, 1);
        starts("32 none at 800", x, 0, 789, -1);
        x = row("", "when late is 0 do pause 30;", 1, 0);
        x.away(0, 0, 30, 798);
        starts("32 at 799", x, 0, 799);
        x.away(0, 0, 799, 799);
        starts("32 never", x, 0, -1);
        due("42 no end", x.count(6), 0);
    }

    private static void meetingWhats() {
        ParentEve x = row(2, 0);
        x.absent(5, 1, true);
        int[] begun = {0, 10, 0, 10}, missed = {-1, -1, 1, 0};
        for (int what = 0; what < 4; what++) {
            due("32 begun, what " + what, x.meeting(0, 0, what), begun[what]);
            due("32 missed, what " + what, x.meeting(1, 5, what), missed[what]);
            due("32 missed, what " + what + " at 799", x.meeting(1, 799, what), missed[what]);
            due("32 minute -1", x.meeting(0, -1, what), -2);
            due("32 minute 800", x.meeting(0, 800, what), -2);
            due("32 ask -1", x.meeting(-1, 0, what), -2);
            due("32 ask 2", x.meeting(2, 0, what), -2);
        }
        due("32 what -1", x.meeting(0, 0, -1), -2);
        due("32 what 4", x.meeting(0, 0, 4), -2);
    }

    // ---- promises 33 to 35

    private static void off() {
        ParentEve x = row(2, 1);
        due("33 nothing told", x.off(0), 0);
        due("33 minute 799", x.off(799), 0);
        due("33 minute -1", x.off(-1), -2);
        due("33 minute 800", x.off(800), -2);
        x.comes(50, 0, 13);
        // as known ahead of 50 they begin at 10 and 20, in the end at 13 and 23
        due("33 none begun", x.off(9), 6);
        due("33 one begins at it", x.off(10), 3);
        due("33 one is to begin", x.off(19), 3);
        due("33 the other begins at it", x.off(20), 0);
        due("33 all begun", x.off(49), 0);
        due("33 known", x.off(50), 0);
        // 30 for a MISSED one, in the end or as KNOWN
        x = row(1, 5);
        x.absent(10, 0, true);
        due("33 missed in the end", x.off(9), 30);
        due("33 missed both ways", x.off(10), 0);
        x.absent(20, 0, false);
        due("33 not missed any more", x.off(9), 0);
        due("33 missed as known", x.off(10), 30);
        due("33 missed as known", x.off(19), 30);
        due("33 known", x.off(20), 0);
        // of one that isn't LAID nothing
        x = new ParentEve();
        x.ask(0, 0, false);
        x.ask(1, 0, false);
        x.lay(0, 0);
        x.begin();
        x.absent(5, 0, true);
        due("33 begun as known then", x.off(4), 0);
        // earlier or later, it is as far
        x = row(1, 5);
        x.comes(0, 0, 60);
        x.comes(30, 0, 52);
        due("33 earlier", x.off(0), 8);
        x.comes(40, 0, 64);
        due("33 later", x.off(0), 4);
        due("33 later", x.off(30), 12);
    }

    private static void next() {
        ParentEve x = new ParentEve();
        x.ask(0, 0, false);
        x.ask(0, 1, false);
        x.ask(14, 9, false);
        x.ask(0, 2, false);
        x.lay(0, 1);
        x.lay(1, 0);
        x.lay(2, 19);
        x.begin();
        due("34 one begins at the minute: the other", x.next(0, 0), 0);
        due("34 a minute ahead", x.next(0, 9), 0);
        due("34 at it: none", x.next(0, 10), -1);
        due("34 the last family", x.next(14, 189), 2);
        due("34 at it", x.next(14, 190), -1);
        due("34 at 799", x.next(14, 799), -1);
        due("34 family 15", x.next(15, 0), -2);
        due("34 family -1", x.next(-1, 0), -2);
        due("34 minute -1", x.next(0, -1), -2);
        due("34 minute 800", x.next(0, 800), -2);
        x.absent(3, 0, true);
        due("34 as known at 2", x.next(0, 2), 0);
        due("34 missed, as known at 3", x.next(0, 3), -1);
    }

    private static void messages() {
        for (int late : new int[] {0, 4, 5, 6}) {
            ParentEve x = row(1, 5);
            x.comes(10, 0, 50 + late);
            due("35 " + late + " minutes later", x.messages(0), late < 5 ? 0 : 1);
            x.comes(20, 0, 50);
            due("35 and as much earlier", x.messages(0), late < 5 ? 0 : 2);
        }
        // at minute 0: nothing was KNOWN ahead
        ParentEve x = row(1, 5);
        x.comes(0, 0, 55);
        due("35 told at 0", x.messages(0), 1);
        x = row(1, 5);
        x.absent(0, 0, true);
        due("35 told at 0: none is next", x.messages(0), 1);
        x = row(1, 0);
        x.comes(0, 0, 5);
        due("35 told at 0: none was next behind 0", x.messages(0), 1);
        x = row(1, 0);
        x.over(0, 0, 60);
        due("35 it begins at 0, not behind it", x.messages(0), 0);
        // at 799 none is next
        x = row(1, 5);
        x.absent(799, 0, true);
        due("35 told at 799", x.messages(0), 0);
        // told at the minute at which it begins as KNOWN
        x = row(1, 5);
        x.comes(49, 0, 60);
        due("35 a minute ahead", x.messages(0), 1);
        x = row(1, 5);
        x.comes(50, 0, 60);
        due("35 it was none behind 50, and is one", x.messages(0), 1);
        x = row(1, 5);
        x.absent(50, 0, true);
        due("35 it was none behind 50, and is none", x.messages(0), 0);
        // another one is next, and begins less than five minutes later
        x = new ParentEve();
        Check.rules(x, "slot 4;");
        x.ask(0, 0, false);
        x.ask(0, 1, false);
        x.lay(0, 5);
        x.lay(1, 6);
        x.begin();
        x.absent(10, 0, true);
        due("34 the other one", x.next(0, 10), 1);
        due("35 the other one, four minutes later", x.messages(0), 1);
        // once for all told at a minute; a row of little changes is no message
        x = row(1, 5);
        for (int i = 1; i <= 3; i++) x.comes(10, 0, 50 + 10 * i);
        due("35 three at one minute", x.messages(0), 1);
        x = row(1, 5);
        for (int i = 1; i <= 3; i++) x.comes(10 + i, 0, 50 + 4 * i);
        due("35 three times four minutes", x.messages(0), 0);
        x = row(1, 5);
        for (int i = 1; i <= 3; i++) x.comes(10 + i, 0, 50 + 5 * i);
        due("35 three times five minutes", x.messages(0), 3);
        x.away(20, 9, 0, 799);
        due("35 of another one nothing", x.messages(0), 3);
        due("35 who has no meeting", x.messages(14), 0);
        due("35 family 15", x.messages(15), -2);
        due("35 family -1", x.messages(-1), -2);
        // eighty minutes at which something is told
        x = row(1, 19);
        for (int i = 0; i < 80; i++) x.absent(i, 0, i % 2 == 0);
        due("35 eighty", x.messages(0), 80);
    }

    // ---- promise 36

    private static void mendMany() {
        for (int n = 0; n <= 6; n++) {
            ParentEve x = row(6, 0);
            for (int a = 0; a < n; a++) x.absent(0, a, true);
            due("42 missed", x.count(5), n);
            due("36 missed are " + n, x.mend(100), n > 4 ? -3 : n);
            for (int a = 0; a < 6; a++) due("22 slot of " + a, x.about(a, 3), n <= 4 && a < n ? 10 + a : a);
            due("42 laid", x.count(1), 6);
        }
        // five in the end, four as KNOWN then
        ParentEve x = row(5, 0);
        for (int a = 0; a < 5; a++) x.absent(a, a, true);
        due("36 five", x.mend(4), -3);
        due("36 five", x.mend(799), -3);
        due("36 four", x.mend(3), 4);
        x = row(1, 0);
        due("36 minute -1", x.mend(-1), -2);
        due("36 minute 800", x.mend(800), -2);
        due("36 none", x.mend(799), 0);
        due("36 none", x.mend(0), 0);
    }

    /** SLOTS whose minute isn't ahead of that one. */
    private static void mendSlots() {
        int[] slots = {1, 7, 10, 30};
        for (int slot : slots) {
            for (int first = 0; first < 20; first += 19) {
                for (int ahead = 0; ahead < 2; ahead++) {
                    int minute = first * slot + ahead;
                    int due = slot == 1 ? minute : ahead == 0 ? first : first + 1;
                    ParentEve x = row("slot " + slot + ";", "", 1, 5);
                    x.absent(0, 0, true);
                    due("36 slots of " + slot + " from minute " + minute, x.mend(minute), due == 5 ? 0 : 1);
                    due("22 its slot", x.about(0, 3), due < 20 ? due : -1);
                    due("42 laid", x.count(1), due < 20 ? 1 : 0);
                    due("32 a meeting, or none", x.meeting(0, 0, 2), due < 20 ? 1 : -4);
                }
            }
        }
        // the same SLOT again doesn't count
        ParentEve x = row(1, 5);
        x.absent(0, 0, true);
        due("36 at its slot's minute", x.mend(50), 0);
        due("22 stays", x.about(0, 3), 5);
        due("36 a minute behind", x.mend(51), 1);
        due("22 the next slot", x.about(0, 3), 6);
        due("36 the last slot", x.mend(190), 1);
        due("22 the last slot", x.about(0, 3), 19);
        due("36 behind all", x.mend(191), 1);
        due("22 none any more", x.about(0, 3), -1);
        due("42 none laid", x.count(1), 0);
        due("42 tellings stay", x.count(4), 1);
        due("36 none any more", x.mend(191), 0);
        due("28 it is no meeting", x.over(0, 0, 1), -4);
        due("29 it is no meeting", x.absent(0, 0, false), -4);
        due("30 its family", x.comes(0, 0, 9), 2);
        due("16 it may be laid", x.may(0, 5), 1);
        due("17 not in the evening", x.lay(0, 5), -4);
    }

    /** As BEST: all that binds, MUSTS first, the wish, the least row. */
    private static void mendRows() {
        ParentEve x = new ParentEve();
        x.teacher(0, 0, 10);
        x.wish(0, 0, 0, 9);
        x.wish(1, 9, 9, 0);
        for (int f = 0; f < 4; f++) x.ask(f, 0, f == 2);
        for (int f = 0; f < 4; f++) x.lay(f, f);
        x.begin();
        for (int a = 0; a < 3; a++) x.absent(0, a, true);
        due("36 three into two", x.mend(90), 3);
        slots("36 the must and the one with the wish", x, -1, 9, 10, 3);
        due("42 musts not laid", x.count(2), 0);
        due("32 the fourth", x.meeting(3, 90, 0), 30);
        // those that are begun bind the others where they are laid
        x = row(3, 0);
        x.absent(0, 0, true);
        due("36 slots 1 and 2 are taken", x.mend(1), 1);
        slots("36", x, 3, 1, 2);
        // told again that it comes: it begins in its new SLOT
        x.absent(2, 0, false);
        starts("32 anew", x, 2, 30, 10, 20);
        starts("32 as known ahead of it", x, 0, -1, 10, 20);
        due("35 the message stays told of the new slots", x.messages(0), 2);
        // the fewest WAITS with what its FAMILY has at another TEACHER's
        x = new ParentEve();
        x.ask(0, 0, false);
        x.ask(0, 1, false);
        x.ask(0, 2, true);
        x.lay(0, 0);
        x.lay(1, 10);
        x.begin();
        x.absent(0, 0, true);
        due("36 one", x.mend(0), 1);
        slots("36 side by side, and who wasn't laid isn't", x, 9, 10, -1);
        due("32 still absent", x.meeting(0, 0, 2), 1);
        due("32 of one meeting alone", x.meeting(1, 0, 2), 0);
        due("36 from behind it", x.mend(91), 1);
        slots("36 side by side", x, 11, 10, -1);
        // APART, the INTERPRETER, rest and the WALK bind as ever
        x = new ParentEve();
        Check.rules(x, "rest 2; apart 1; door 9;");
        x.room(1, 1, 0);
        x.apart(0, 1, true);
        x.family(0, 0, 19, 1);
        x.family(2, 0, 19, 1);
        x.ask(0, 0, false);
        x.ask(1, 1, false);
        x.ask(2, 2, false);
        x.ask(0, 1, false);
        x.ask(3, 0, false);
        x.ask(4, 0, false);
        x.lay(0, 0);
        x.lay(1, 2);
        x.lay(2, 4);
        x.lay(3, 11);
        x.lay(4, 5);
        x.lay(5, 6);
        due("27 six", x.begin(), 6);
        x.absent(0, 0, true);
        // 4 the interpreter, 5 and 6 the teacher, 7 rest, 10 and 12 the walk
        due("36 from slot 4 on", x.mend(31), 1);
        slots("36 as near as it may be", x, 9, 2, 4, 11, 5, 6);
    }

    /** As many ASKS as there can be, all LAID: a is of family a % 15 for teacher a / 15, in SLOT (both added) % 15. */
    private static void fortyMeetings() {
        ParentEve x = new ParentEve();
        for (int a = 0; a < 40; a++) due("15 ask", x.ask(a % 15, a / 15, a % 2 == 0), a);
        due("15 no more", x.ask(0, 3, false), -3);
        for (int a = 0; a < 40; a++) due("17 lay", x.lay(a, (a % 15 + a / 15) % 15), 1);
        due("27 forty", x.begin(), 40);
        due("24 musts", x.value(0), 20);
        due("24 asks", x.value(1), 40);
        for (int a = 0; a < 40; a++) due("32 start of " + a, x.meeting(a, 0, 0), 10 * x.about(a, 3));
        due("33 nothing told", x.off(0), 0);
        due("42 missed", x.count(5), 0);
        due("42 last end", x.count(6), 150);
        // the first meeting takes 7 minutes longer: all but it and the one of family 14 in SLOT 0 begin as much later
        due("28", x.over(3, 0, 1), 1);
        due("28", x.over(3, 0, 7), 2);
        for (int a = 0; a < 40; a++) due("32 later: " + a, x.meeting(a, 3, 0), 10 * x.about(a, 3) + (x.about(a, 3) == 0 ? 0 : 7));
        due("33 as known at 2", x.off(2), 38 * 7);
        due("33 as known at 3", x.off(3), 0);
        due("42 last end", x.count(6), 157);
        for (int f = 0; f < 15; f++) {
            due("34 next of " + f, x.next(f, 3), f == 0 ? 15 : f == 14 ? 14 : f);
            due("34 none behind all", x.next(f, 150), -1);
            due("35 messages to " + f, x.messages(f), 1);
        }
        // told when no meeting is to come: no message, to none
        due("28", x.over(799, 39, 60), 3);
        for (int f = 0; f < 15; f++) due("35 no more of them to " + f, x.messages(f), 1);
        // the last ASK of all is mended
        due("29", x.absent(799, 39, true), 4);
        due("42 missed", x.count(5), 1);
        due("33 one of forty", x.off(3), 30);
        due("36 the last ask", x.mend(799), 1);
        due("32 none any more", x.meeting(39, 0, 0), -4);
        due("42 laid", x.count(1), 39);
        due("42 missed", x.count(5), 0);
    }

    private static void slots(String name, ParentEve x, int... row) {
        for (int a = 0; a < row.length; a++) due(name + ", slot of " + a, x.about(a, 3), row[a]);
    }
}
