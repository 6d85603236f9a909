/** Promises 25 to 36: habits, what is told, the evening as it is known, what families are told, what is mended. */
public final class EveningTest {
    private static final Check CHECK = new Check();

    public static void main(String[] args) {
        habits();
        begin();
        tellings();
        tellingsFull();
        overs();
        absent();
        comes();
        away();
        walks();
        interpreters();
        order();
        late();
        lastMinutes();
        tests();
        facts();
        acts();
        meetingArguments();
        off();
        next();
        messages();
        mend();
        mendMany();
        CHECK.end("EveningTest");
    }

    private static void due(String call, long got, long want) {
        CHECK.due(call, got, want);
    }

    /** Asks of families 0 .. n - 1 for teacher 0, laid one behind the other from a slot on. */
    private static ParentEve row(int n, int from) {
        return rowUnder("", n, from);
    }

    private static ParentEve rowUnder(String policy, int n, int from) {
        ParentEve x = new ParentEve();
        Check.policy(x, 0, policy);
        x.follow(0, 0);
        for (int f = 0; f < n; f++) {
            x.ask(f, 0, f == 1);
            x.lay(f, from + f);
        }
        x.begin();
        return x;
    }

    private static void starts(String name, ParentEve x, int minute, int... row) {
        for (int a = 0; a < row.length; a++) {
            due(name + " start of " + a, x.meeting(a, minute, 0), row[a]);
        }
    }

    private static void habits() {
        ParentEve x = new ParentEve();
        due("26 without", x.foretold(3), 0);
        int[] told = {50, 3, 60, 0, 7, 7};
        int[] middle = {50, 3, 50, 3, 7, 7};
        for (int i = 0; i < told.length; i++) {
            due("25 habit " + i, x.habit(3, told[i]), i + 1);
            due("26 foretold " + i, x.foretold(3), middle[i]);
        }
        due("26 of another", x.foretold(4), 0);
        due("25 above", x.habit(0, 61), -2);
        due("25 below", x.habit(0, -1), -2);
        due("25 no teacher", x.habit(10, 5), -2);
        due("25 no teacher", x.habit(-1, 5), -2);
        due("26 no teacher", x.foretold(10), -2);
        due("26 no teacher", x.foretold(-1), -2);
        x.begin();
        for (int i = 1; i <= 20; i++) {
            due("25 in the evening", x.habit(9, i), i);
        }
        due("25 full", x.habit(9, 1), -3);
        due("25 range first", x.habit(9, 61), -2);
        due("26 the lesser in the middle", x.foretold(9), 10);
        due("25 others go on", x.habit(3, 60), 7);
    }

    private static void begin() {
        ParentEve x = new ParentEve();
        x.ask(0, 0, false);
        x.ask(1, 0, false);
        x.ask(2, 0, false);
        x.lay(0, 4);
        x.lay(2, 5);
        due("27", x.begin(), 2);
        due("27 again", x.begin(), -4);
        due("42 begun", x.count(3), 1);
    }

    private static void tellings() {
        ParentEve x = new ParentEve();
        x.ask(0, 0, false);
        x.ask(1, 0, false);
        x.lay(0, 0);
        due("28 not begun", x.over(0, 0, 1), -4);
        due("29 not begun", x.absent(0, 0, true), -4);
        due("30 not begun", x.comes(0, 0, 1), -4);
        due("31 not begun", x.away(0, 0, 1, 1), -4);
        due("28 range first", x.over(0, 2, 1), -2);
        due("30 range first", x.comes(0, 15, 1), -2);
        x.begin();
        due("28 not laid", x.over(0, 1, 1), -4);
        due("29 not laid", x.absent(0, 1, true), -4);
        due("28 range first", x.over(0, 1, 61), -2);
        due("28", x.over(5, 0, 0), 1);
        due("28", x.over(5, 0, 60), 2);
        due("28 at the same minute", x.absent(5, 0, false), 3);
        due("30", x.comes(6, 14, 799), 4);
        due("31", x.away(7, 9, 0, 799), 5);
        for (int minute : new int[] {-1, 6, 800, Integer.MIN_VALUE, Integer.MAX_VALUE}) {
            due("28 minute " + minute, x.over(minute, 0, 0), -2);
            due("29 minute " + minute, x.absent(minute, 0, true), -2);
            due("30 minute " + minute, x.comes(minute, 0, 0), -2);
            due("31 minute " + minute, x.away(minute, 0, 0, 0), -2);
        }
        due("28 no ask", x.over(7, 2, 0), -2);
        due("28 no ask", x.over(7, -1, 0), -2);
        due("28 n", x.over(7, 0, 61), -2);
        due("28 n", x.over(7, 0, -1), -2);
        due("29 no ask", x.absent(7, 2, true), -2);
        due("29 no ask", x.absent(7, -1, true), -2);
        due("30 no family", x.comes(7, 15, 0), -2);
        due("30 no family", x.comes(7, -1, 0), -2);
        due("30 from", x.comes(7, 0, 800), -2);
        due("30 from", x.comes(7, 0, -1), -2);
        due("31 no teacher", x.away(7, 10, 0, 0), -2);
        due("31 no teacher", x.away(7, -1, 0, 0), -2);
        due("31 from", x.away(7, 0, -1, 5), -2);
        due("31 to", x.away(7, 0, 5, 800), -2);
        due("31 from above to", x.away(7, 0, 6, 5), -2);
        due("42 tellings", x.count(4), 5);
        due("31 at 799", x.away(799, 0, 799, 799), 6);
    }

    private static void tellingsFull() {
        ParentEve x = row(1, 0);
        for (int i = 1; i <= 80; i++) {
            due("28 telling " + i, x.over(i, 0, i % 7), i);
        }
        due("28 full", x.over(80, 0, 1), -3);
        due("29 full", x.absent(80, 0, true), -3);
        due("30 full", x.comes(80, 0, 1), -3);
        due("31 full", x.away(80, 0, 1, 1), -3);
        due("28 range first", x.over(79, 0, 1), -2);
        due("42 tellings", x.count(4), 80);
        for (int i = 1; i <= 80; i++) {
            due("32 as known at " + i, x.meeting(0, i, 3), 10 + i % 7);
        }
        due("35 none", x.messages(0), 0);
        // the last of all asks, with the last telling
        x = new ParentEve();
        for (int i = 0; i < 40; i++) {
            x.ask(i % 15, i / 15, false);
        }
        x.lay(39, 1);
        x.begin();
        for (int i = 1; i <= 80; i++) {
            x.over(0, 39, i % 60);
        }
        due("32 the last of all", x.meeting(39, 0, 0), 10);
        due("32 the last of all", x.meeting(39, 0, 1), 40);
    }

    private static void overs() {
        ParentEve x = row(3, 0);
        starts("32 as laid", x, 0, 0, 10, 20);
        x.over(4, 0, 3);
        x.over(4, 1, 60);
        x.over(9, 1, 0);
        starts("32 nothing known", x, 3, 0, 10, 20);
        starts("32 at 4", x, 4, 0, 13, 83);
        due("32 its end", x.meeting(1, 4, 1), 83);
        due("32 its minutes", x.meeting(1, 4, 3), 70);
        starts("32 the latest holds", x, 9, 0, 13, 23);
        due("42 last end", x.count(6), 33);
        x.habit(0, 5);
        starts("32 foretold, but what is known", x, 9, 0, 13, 23);
        due("32 foretold", x.meeting(2, 9, 3), 15);
        starts("32 foretold", x, 0, 0, 15, 30);
        x.habit(1, 60);
        starts("32 another's habit", x, 0, 0, 15, 30);
    }

    private static void absent() {
        ParentEve x = row(3, 0);
        x.absent(1, 0, true);
        starts("32 missed when more than 15 late", x, 1, -1, 17, 27);
        due("32 no end", x.meeting(0, 1, 1), -1);
        due("32 missed", x.meeting(0, 1, 2), 1);
        due("32 no minutes", x.meeting(0, 1, 3), 0);
        due("32 not missed", x.meeting(1, 1, 2), 0);
        due("42 missed", x.count(5), 1);
        x.absent(2, 0, false);
        starts("32 does come", x, 2, 0, 10, 20);
        x.absent(2, 1, true);
        x.absent(2, 2, true);
        starts("32 the others", x, 2, 0, -1, -1);
        due("42 missed", x.count(5), 2);
        due("42 last end", x.count(6), 10);
    }

    private static void comes() {
        ParentEve x = row(2, 1);
        starts("32 in the house from its first slot", x, 0, 10, 20);
        x.comes(0, 0, 25);
        starts("32 from 25", x, 0, 25, 35);
        x.comes(1, 0, 26);
        starts("32 from 26: late, but here", x, 1, 26, 36);
        x.comes(1, 0, 27);
        starts("32 from 27", x, 1, -1, 27);
        x.comes(2, 0, 0);
        x.comes(2, 1, 35);
        starts("32 the latest", x, 2, 10, 35);
        x = new ParentEve();
        x.ask(14, 9, false);
        x.lay(0, 0);
        x.begin();
        x.comes(0, 14, 8);
        starts("32 of the last family", x, 0, 8);
        due("42 the last end", x.count(6), 18);
        x.over(1, 0, 6);
        due("42 the last end", x.count(6), 24);
        x.away(2, 9, 8, 12);
        starts("32 of the last teacher", x, 2, 13);
        // a family that may come from slot 3 on, met at last ahead of it
        x = new ParentEve();
        Check.policy(x, 0, "when here is 0 do swap;");
        x.follow(0, 0);
        x.family(0, 3, 19, 0);
        x.family(1, 4, 19, 0);
        x.ask(0, 0, false);
        x.ask(1, 0, false);
        x.lay(0, 3);
        x.lay(1, 12);
        x.begin();
        x.comes(0, 0, 799);
        starts("32 at first from that of its first slot", x, 0, 799, 40);
    }

    private static void away() {
        ParentEve x = row(2, 0);
        x.away(0, 0, 0, 4);
        starts("32 away", x, 0, 5, 15);
        x.away(1, 0, 6, 20);
        starts("32 what goes on goes on", x, 1, 5, 21);
        x.away(2, 0, 5, 5);
        starts("32 all hold", x, 2, 21, 31);
        x.away(3, 1, 0, 799);
        starts("32 another one's", x, 3, 21, 31);
        starts("32 ahead of it", x, 0, 5, 15);
        x.follow(0, 1);
        starts("32 ahead of it, run through anew", x, 0, 5, 15);
        // away for long: the first look is late
        x = row(2, 0);
        x.away(0, 0, 0, 99);
        starts("32 late, but here", x, 0, 100, 110);
        x.absent(0, 0, true);
        starts("32 missed at the first look, one look a minute", x, 0, -1, 101);
    }

    private static void walks() {
        ParentEve x = new ParentEve();
        Check.rules(x, "slot 10; floor 3; door 1;");
        x.room(1, 1, 2);
        x.room(2, 1, 0);
        x.ask(0, 0, false);
        x.ask(0, 1, false);
        x.ask(0, 2, false);
        x.lay(0, 0);
        x.lay(1, 2);
        x.lay(2, 4);
        x.begin();
        starts("32 time enough", x, 0, 0, 20, 40);
        x.over(1, 0, 10);
        starts("32 seven minutes' walk", x, 1, 0, 27, 44);
        x.over(2, 0, 30);
        x.over(2, 1, 60);
        starts("32 from the latest teacher", x, 2, 0, -1, 41);
        due("32 its end", x.meeting(0, 2, 1), 40);
        x.follow(0, 3);
        starts("32 run through anew", x, 0, 0, 20, 40);
    }

    private static void interpreters() {
        ParentEve x = new ParentEve();
        x.family(0, 0, 19, 2);
        x.family(1, 0, 19, 2);
        x.family(2, 0, 19, 1);
        for (int f = 0; f < 4; f++) {
            x.ask(f, f, false);
        }
        x.lay(0, 0);
        x.lay(1, 1);
        x.lay(2, 1);
        x.lay(3, 1);
        x.begin();
        x.over(0, 0, 5);
        starts("32 waits for the interpreter", x, 0, 0, 15, 10, 10);
        due("32 its end", x.meeting(0, 0, 1), 15);
        for (int tongue = 0; tongue < 4; tongue++) {
            x = new ParentEve();
            x.family(5, 0, 19, tongue);
            x.family(14, 0, 19, tongue);
            x.ask(5, 8, false);
            x.ask(14, 9, false);
            x.lay(0, 0);
            x.lay(1, 1);
            x.begin();
            x.over(0, 0, 7);
            starts("32 tongue " + tongue, x, 0, 0, tongue == 0 ? 10 : 17);
        }
    }

    private static void order() {
        // one family late for both teachers: teacher 0 looks first
        ParentEve x = new ParentEve();
        Check.rules(x, "late 20;");
        x.ask(0, 1, false);
        x.ask(0, 0, false);
        x.lay(0, 0);
        x.lay(1, 1);
        x.begin();
        x.comes(0, 0, 10);
        starts("32 teachers by number", x, 0, 20, 10);
        // the teacher 0 may not see what teacher 1 ends at the same minute otherwise than as ended
        x = new ParentEve();
        x.ask(0, 1, false);
        x.ask(0, 0, false);
        x.lay(0, 0);
        x.lay(1, 1);
        x.begin();
        starts("32 ended at 10", x, 0, 0, 10);
    }

    private static void late() {
        ParentEve x = new ParentEve();
        Check.rules(x, "late 0;");
        x.ask(0, 0, false);
        x.ask(1, 0, false);
        x.lay(0, 0);
        x.lay(1, 1);
        x.begin();
        x.comes(0, 0, 1);
        starts("32 a minute more than 0", x, 0, 1, 11);
        x.comes(1, 0, 2);
        starts("32 two minutes", x, 1, -1, 10);
    }

    private static void lastMinutes() {
        ParentEve x = new ParentEve();
        Check.rules(x, "slot 30; late 99;");
        Check.policy(x, 0, "when here is 0 do wait;");
        x.follow(0, 0);
        x.ask(0, 0, false);
        x.ask(1, 0, false);
        x.lay(0, 0);
        x.lay(1, 19);
        x.begin();
        x.comes(0, 0, 799);
        starts("32 begun at 799", x, 0, 799, -1);
        due("32 its end", x.meeting(0, 799, 1), 829);
        due("42 last end", x.count(6), 829);
        due("42 missed", x.count(5), 1);
        x.away(1, 0, 799, 799);
        starts("32 not begun by 799", x, 1, -1, -1);
        due("42 last end", x.count(6), 0);
    }

    private static void under(String policy, int... row) {
        ParentEve x = rowUnder(policy, 3, 0);
        x.comes(0, 0, 12);
        starts("32 " + policy, x, 0, row);
    }

    private static void tests() {
        // family 0 comes at 12, families 1 and 2 are there
        under("", 12, 22, 32);
        under("when late above 4 do skip;", -1, 10, 20);
        under("when late above 11 do skip;", -1, 13, 23);
        under("when late above 12 do skip;", 12, 22, 32);
        under("when late is 4 do skip;", -1, 10, 20);
        under("when late below 1 do skip;", -1, -1, -1);
        under("when late below 0 do skip;", 12, 22, 32);
        under("when late above 9 and late below 11 do skip;", -1, 11, 21);
        under("when late above 5 and late below 5 do skip;", 12, 22, 32);
        // of two lines that hold the first acts
        under("when late above 4 do skip;when late above 3 do pause 9;", -1, -1, -1);
        under("when late above 9 do skip;when late above 3 do pause 5;", -1, -1, 21);
        under("when late above 3 do wait;when late above 4 do skip;", -1, -1, -1);
    }

    private static void facts() {
        under("when slot is 0 do skip;", -1, 10, 20);
        under("when slot above 0 do skip;", 12, -1, -1);
        under("when must is 1 do skip;", 12, -1, 23);
        under("when must is 0 do skip;", -1, 10, -1);
        under("when here is 0 do skip;", -1, 10, 20);
        under("when here is 1 do skip;", -1, -1, -1);
        under("when left is 3 do skip;", -1, 10, 20);
        under("when left is 2 do skip;", 12, -1, 23);
        under("when left below 2 do skip;", 12, 22, -1);
        under("when waiting is 0 do wait;when waiting is 1 and must is 0 do skip;", -1, 11, -1);
        under("when waiting above 1 do skip;", -1, 13, 23);
        // who isn't here isn't counted, nor whose slot is to come
        String eight = "when slot is 9 do skip;".repeat(7);
        under(eight + "when late is 0 do pause 3;", 12, 22, 32);
        under(eight + "when here is 1 do short 3;", 12, 15, 20);
        under(eight + "when here is 0 do skip;", -1, 10, 20);
        ParentEve x = rowUnder("when waiting is 2 do skip;", 4, 0);
        x.comes(0, 0, 15);
        x.comes(0, 1, 25);
        starts("32 waiting two at 20", x, 0, 15, -1, 26, 36);
    }

    private static void acts() {
        under("when late above 4 do swap;", -1, 5, 15);
        under("when late is 4 do swap;", 14, 4, 25);
        under("when here is 0 do swap;", 20, 0, 10);
        under("when late above 0 do full;", 12, 22, 32);
        under("when late above 99 do wait;", 12, 22, 32);
        under("when late above 0 do short 3;", 12, 15, 20);
        under("when late above 0 do short 30;", 12, 22, 32);
        under("when late is 0 do pause 20;", 20, 30, 40);
        under("when late is 11 do pause 1;", 12, 22, 32);
        under("when late is 11 do pause 2;", 13, 23, 33);
        under("when late above 10 do skip;", -1, 12, 22);
        // skip whether it is here or not, one a minute
        under("when left above 0 do skip;", -1, -1, -1);
        // full waits longer than late minutes
        ParentEve x = rowUnder("when late above 5 do full;", 2, 0);
        x.comes(0, 0, 100);
        starts("32 full waits", x, 0, 100, 110);
        // short takes no OVER
        x = rowUnder("when slot is 0 do short 4;", 3, 0);
        x.over(0, 0, 9);
        x.over(0, 1, 3);
        starts("32 short without over", x, 0, 0, 10, 23);
        due("32 its end", x.meeting(0, 0, 1), 4);
        // swap with its over; nobody here behind it: nothing, and no miss
        x = rowUnder("when late above 1 do swap;", 3, 0);
        x.over(0, 2, 7);
        x.absent(0, 0, true);
        x.comes(0, 1, 300);
        starts("32 swap to the first that is here", x, 0, -1, 300, 2);
        due("32 its end", x.meeting(2, 0, 1), 19);
        // the front comes again, late, when the one from behind has ended: swapped again and again
        x = rowUnder("when late above 0 do swap;", 2, 0);
        x.comes(0, 0, 1);
        starts("32 nothing behind it", x, 0, -1, 1);
        x.follow(0, -1);
        starts("32 follows none", x, 0, 1, 11);
        x.follow(0, 1);
        starts("32 a policy without lines", x, 0, 1, 11);
    }

    private static void meetingArguments() {
        ParentEve x = new ParentEve();
        x.ask(0, 0, false);
        x.ask(1, 0, false);
        x.lay(0, 3);
        due("32 not begun", x.meeting(0, 0, 0), -4);
        due("32 range first", x.meeting(2, 0, 0), -2);
        x.begin();
        due("32 not laid", x.meeting(1, 0, 0), -4);
        due("32 no ask", x.meeting(2, 0, 0), -2);
        due("32 no ask", x.meeting(-1, 0, 0), -2);
        due("32 no minute", x.meeting(0, -1, 0), -2);
        due("32 no minute", x.meeting(0, 800, 0), -2);
        due("32 no what", x.meeting(0, 0, -1), -2);
        due("32 no what", x.meeting(0, 0, 4), -2);
        due("32 range first", x.meeting(1, 800, 0), -2);
        due("32", x.meeting(0, 799, 0), 30);
        due("32", x.meeting(0, 799, 1), 40);
        due("32", x.meeting(0, 799, 2), 0);
        due("32", x.meeting(0, 799, 3), 10);
    }

    private static void off() {
        ParentEve x = new ParentEve();
        due("33 not begun", x.off(0), -4);
        due("33 range first", x.off(800), -2);
        x = row(3, 0);
        x.over(15, 0, 4);
        due("33 asked for at once", x.off(1), 8);
        x = row(2, 2);
        x.absent(15, 0, true);
        due("33 the first ask, too", x.off(1), 30 + 7);
        x = row(3, 0);
        due("33 nothing told", x.off(0), 0);
        due("33 no minute", x.off(-1), -2);
        due("33 no minute", x.off(800), -2);
        x.over(15, 0, 4);
        due("33 ahead of it", x.off(0), 8);
        due("33 one begins at it", x.off(10), 4);
        due("33 one isn't begun", x.off(9), 8);
        due("33 known", x.off(15), 0);
        x.absent(20, 1, true);
        starts("33 in the end", x, 20, 0, -1, 27);
        due("33 one missed", x.off(0), 37);
        due("33 one missed, begun as known then", x.off(14), 7);
        due("33 one missed, not begun as known then", x.off(9), 37);
        due("33 as known at 15: from 14 on", x.off(15), 3);
        x.absent(21, 1, false);
        due("33 missed as known, not in the end", x.off(20), 33);
        x.absent(22, 1, true);
        due("33 missed both ways", x.off(20), 0);
        due("33 at last", x.off(799), 0);
    }

    private static void next() {
        ParentEve x = new ParentEve();
        due("34 not begun", x.next(0, 0), -4);
        due("34 range first", x.next(15, 0), -2);
        x.ask(0, 0, false);
        x.ask(0, 1, false);
        x.ask(1, 0, false);
        x.lay(0, 6);
        x.lay(1, 2);
        x.begin();
        due("34 the one that begins first", x.next(0, 0), 1);
        due("34 a minute ahead", x.next(0, 19), 1);
        due("34 just begun", x.next(0, 20), 0);
        due("34 ahead", x.next(0, 59), 0);
        due("34 none", x.next(0, 60), -1);
        due("34 not laid", x.next(1, 0), -1);
        due("34 no asks", x.next(14, 0), -1);
        due("34 no family", x.next(15, 0), -2);
        due("34 no family", x.next(-1, 0), -2);
        due("34 no minute", x.next(0, -1), -2);
        due("34 no minute", x.next(0, 800), -2);
        x.absent(3, 1, true);
        due("34 as known at 2", x.next(0, 2), 1);
        due("34 as known at 3: missed", x.next(0, 3), 0);
    }

    private static void messages() {
        ParentEve x = new ParentEve();
        due("35 not begun", x.messages(0), -4);
        due("35 range first", x.messages(15), -2);
        x = row(3, 1);
        due("35 nothing told", x.messages(0), 0);
        due("35 no family", x.messages(15), -2);
        due("35 no family", x.messages(-1), -2);
        x.over(0, 0, 4);
        due("35 four minutes", x.messages(1), 0);
        x.over(1, 0, 9);
        due("35 five more", x.messages(1), 1);
        due("35 the last one, too", x.messages(2), 1);
        due("35 not the first", x.messages(0), 0);
        x.over(1, 0, 4);
        due("35 once for all told at a minute", x.messages(1), 0);
        x.absent(2, 1, true);
        due("35 missed: none more", x.messages(1), 1);
        x.absent(3, 1, false);
        due("35 one again", x.messages(1), 2);
        x.comes(30, 1, 200);
        due("35 begun already: nothing", x.messages(1), 2);
        due("35 no meeting", x.messages(14), 0);
        // the first two told at one minute
        x = row(2, 1);
        x.over(0, 0, 9);
        due("35 one told", x.messages(1), 1);
        x.over(0, 0, 1);
        due("35 one told otherwise at the same minute", x.messages(1), 0);
        x.over(0, 0, 30);
        due("35 a third", x.messages(1), 1);
        // another one is next
        x = new ParentEve();
        x.ask(0, 0, false);
        x.ask(0, 1, false);
        x.lay(0, 5);
        x.lay(1, 7);
        x.begin();
        x.absent(10, 0, true);
        due("35 another one", x.messages(0), 1);
        x.over(60, 1, 30);
        due("35 its end alone", x.messages(0), 1);
        x.away(70, 1, 70, 75);
        due("35 its beginning as known at 69 isn't behind 70", x.messages(0), 2);
    }

    private static void mend() {
        ParentEve x = new ParentEve();
        due("36 not begun", x.mend(0), -4);
        due("36 range first", x.mend(800), -2);
        x = row(3, 0);
        x.absent(0, 0, true);
        due("36 asked for at once", x.mend(1), 1);
        due("22 the first slot", x.about(0, 3), 3);
        x = row(1, 5);
        x.absent(0, 0, true);
        due("36 behind all slots", x.mend(799), 1);
        due("22 none any more", x.about(0, 3), -1);
        x = row(3, 0);
        due("36 none missed", x.mend(0), 0);
        due("36 no minute", x.mend(-1), -2);
        due("36 no minute", x.mend(800), -2);
        x.absent(5, 1, true);
        due("36 not known yet", x.mend(4), 0);
        due("36 slots from 41 on", x.mend(41), 1);
        due("22 its slot", x.about(1, 3), 5);
        due("36 as it was", x.mend(50), 0);
        due("22 its slot", x.about(1, 3), 5);
        due("32 still absent", x.meeting(1, 50, 2), 1);
        x.absent(60, 1, false);
        due("32 anew", x.meeting(1, 60, 0), 50);
        due("32 the latter no more behind it", x.meeting(2, 60, 0), 20);
        x.absent(70, 1, true);
        due("36 no slot any more", x.mend(191), 1);
        due("22 none any more", x.about(1, 3), -1);
        due("42 laid", x.count(1), 2);
        due("42 musts not laid", x.count(2), 1);
        due("32 no meeting", x.meeting(1, 70, 0), -4);
        due("28 no meeting", x.over(70, 1, 5), -4);
        due("29 no meeting", x.absent(70, 1, false), -4);
        due("36 no more", x.mend(191), 0);
        due("42 missed", x.count(5), 0);
        due("34 none", x.next(1, 0), -1);
    }

    private static void mendMany() {
        ParentEve x = row(6, 0);
        for (int a = 0; a < 5; a++) {
            x.absent(a, a, true);
        }
        due("36 more than four", x.mend(4), -3);
        due("22 nothing is done", x.about(0, 3), 0);
        due("36 four", x.mend(3), 4);
        for (int a = 0; a < 6; a++) {
            due("22 slot of " + a, x.about(a, 3), new int[] {1, 2, 3, 6, 4, 5}[a]);
        }
        // in the wish if it can be, and some as they were
        x = new ParentEve();
        x.wish(0, 8, 9, 0);
        x.ask(0, 0, false);
        x.ask(1, 0, true);
        x.ask(2, 0, false);
        x.teacher(0, 17, 19);
        x.lay(0, 19);
        x.lay(1, 17);
        x.lay(2, 18);
        x.begin();
        for (int a = 0; a < 3; a++) {
            x.absent(0, a, true);
        }
        due("36 one slot for two musts ahead", x.mend(180), 3);
        due("22 least row", x.about(0, 3), -1);
        due("22 the must", x.about(1, 3), 18);
        due("22 least row", x.about(2, 3), 19);
    }
}
