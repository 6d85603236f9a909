/**
 * The edges that the document names, promise by promise: the last that is allowed and the first that isn't, at both
 * ends; what is empty and what is full. What a refused call leaves behind is RefusedTest's.
 */
public final class EdgeTest {
    private static final Check CHECK = new Check();

    public static void main(String[] args) {
        newObject();
        tape();
        bytes();
        tokens();
        ruleBounds();
        faultsOfRules();
        longTexts();
        conds();
        faultsOfPolicies();
        statesOfTexts();
        asks();
        hoursOfAll();
        walks();
        rests();
        homes();
        interpreters();
        layAll();
        best();
        bestValues();
        bestGivesWay();
        settle();
        value();
        CHECK.end("EdgeTest");
    }

    private static void due(String call, long got, long want) {
        CHECK.due(call, got, want);
    }

    private static void slots(String name, ParentEve x, int... row) {
        for (int a = 0; a < row.length; a++) due(name + ", slot of " + a, x.about(a, 3), row[a]);
    }

    private static void mayBe(String name, ParentEve x, int a, String row) {
        for (int s = 0; s < 20; s++) due(name + ", slot " + s, x.may(a, s), row.charAt(s) - '0');
    }

    private static String only(int from, int to) {
        StringBuilder row = new StringBuilder();
        for (int s = 0; s < 20; s++) row.append(s >= from && s <= to ? '1' : '0');
        return row.toString();
    }

    // ---- promise 1

    private static void newObject() {
        for (int t = 0; t < 10; t++) {
            ParentEve x = new ParentEve();
            for (int u = 0; u < 10; u++) due("1 one room, one floor: walk " + t + " " + u, x.walk(t, u), 0);
            x.room(t, 0, 0);
            due("1 room 0 and floor 0 at first: walk from " + t, x.walk(t, (t + 1) % 10), 0);
            due("1 no habits of " + t, x.foretold(t), 0);
            due("1 followed by nobody: " + t, x.follow(t, 0), -1);
            x.ask(0, t, false);
            mayBe("1 teacher " + t + " is there in all slots", x, 0, only(0, 19));
        }
        for (int f = 0; f < 15; f++) {
            ParentEve x = new ParentEve();
            Check.rules(x, "apart 9;");
            due("23 nothing laid of " + f, x.waits(f), -1);
            x.ask(f, 0, false);
            x.ask((f + 1) % 15, 1, false);
            x.ask((f + 7) % 15, 2, false);
            mayBe("1 family " + f + " is there in all slots", x, 0, only(0, 19));
            x.lay(0, 0);
            due("1 slot 0 is of the wish, no years: " + f, x.value(3), 1);
            due("1 needs no interpreter, not apart: " + f, x.may(1, 0), 1);
            due("1 needs no interpreter, not apart: " + f, x.may(2, 0), 1);
            x.lift(0);
            x.lay(0, 19);
            due("1 slot 19 is of the wish: " + f, x.value(3), 1);
        }
        ParentEve x = new ParentEve();
        due("27 no meetings", x.begin(), 0);
        due("33 no meetings", x.off(0), 0);
        due("34 no meetings", x.next(14, 799), -1);
        due("35 nothing told", x.messages(0), 0);
        due("36 none missed", x.mend(799), 0);
        due("42 begun", x.count(3), 1);
        due("42 none missed", x.count(5), 0);
        due("42 no end", x.count(6), 0);
    }

    // ---- promises 2 and 3

    private static void tape() {
        ParentEve x = new ParentEve();
        for (int i = 1; i <= 20; i++) due("2 feed " + i, x.feed(0x41424344, 0, 0, 0, i), 20 * i);
        due("2 the twenty-first", x.feed(0, 0, 0, 0, 0), -3);
        due("2 has still", x.count(7), 400);
        due("3 all", x.end(400), 400);
        due("3 one more than all", x.end(401), -1);
        due("3 one fewer", x.end(399), 399);
        due("3 gone is gone", x.end(400), -1);
        due("2 a place for one is none for twenty", x.feed(0, 0, 0, 0, 0), -3);
        due("3 without 19", x.end(381), 381);
        due("2 a place for 19 is none for twenty", x.feed(0, 0, 0, 0, 0), -3);
        due("3 without 20", x.end(380), 380);
        due("2 a place for twenty", x.feed(0, 0, 0, 0, 0), 400);
        due("3 none", x.end(0), 0);
        due("3 none of none", x.end(0), 0);
        due("3 below 0", x.end(-1), -1);
        due("3 one of none", x.end(1), -1);
        due("2 from the start again", x.feed(0, 0, 0, 0, 0), 20);
        due("3 the same many", x.end(20), 20);
        due("3 one more", x.end(21), -1);
        due("42 bytes", x.count(7), 20);
    }

    /** The highest byte of each int first, bytes 128 .. 255 too; NOTES take 32 .. 126 alone. */
    private static void bytes() {
        int[] edge = {0, 10, 31, 32, 65, 126, 127, 128, 159, 160, 254, 255};
        for (int b : edge) {
            for (int place = 0; place < 20; place++) {
                ParentEve x = new ParentEve();
                x.ask(0, 0, false);
                int[] w = {0x61616161, 0x61616161, 0x61616161, 0x61616161, 0x61616161};
                int shift = 24 - place % 4 * 8;
                w[place / 4] = w[place / 4] & ~(255 << shift) | b << shift;
                x.feed(w[0], w[1], w[2], w[3], w[4]);
                boolean fine = b >= 32 && b <= 126;
                due("37 byte " + b + " at " + place, x.note(0), fine ? 20 : -1);
                due("39 byte " + b + " at " + place, x.read(0, 0, place), fine ? b : -1);
                due("39 the one behind it", x.read(0, 0, (place + 1) % 20), fine ? 97 : -1);
            }
        }
    }

    // ---- promises 4 to 8

    private static void told(String text, int lines, int... row) {
        ParentEve x = new ParentEve();
        due("4 '" + text + "'", Check.rules(x, text), lines);
        for (int i = 0; i < 6; i++) due("5 rule " + i + " of '" + text + "'", x.rule(i), row[i]);
        due("8 no fault", x.fault(0), 0);
        due("8 no place", x.fault(1), -1);
    }

    private static void fault(String text, int kind, int place) {
        ParentEve x = new ParentEve();
        Check.rules(x, "slot 3; floor 4; door 5; late 6; rest 7; apart 8;");
        due("4 '" + text + "'", Check.rules(x, text), -1);
        due("8 kind of '" + text + "'", x.fault(0), kind);
        due("8 place of '" + text + "'", x.fault(1), place);
        for (int i = 0; i < 6; i++) due("4 rule " + i + " stays", x.rule(i), 3 + i);
        due("8 what 2", x.fault(2), -1);
        due("8 what -1", x.fault(-1), -1);
        due("4 the tape is empty", x.count(7), 0);
    }

    private static void tokens() {
        told("", 0, 10, 2, 1, 15, 0, 0);
        told(" ", 0, 10, 2, 1, 15, 0, 0);
        told("\n \n", 0, 10, 2, 1, 15, 0, 0);
        told("slot5;", 1, 5, 2, 1, 15, 0, 0);
        told("\nslot \n 5\n\n;\n", 1, 5, 2, 1, 15, 0, 0);
        told("late 7;slot 5;", 2, 5, 2, 1, 7, 0, 0);
        told("late 009;", 1, 10, 2, 1, 9, 0, 0);
        told("late 99;rest 0;", 2, 10, 2, 1, 99, 0, 0);
        // bytes next to those that are TOKENS' are none
        for (char c : new char[] {0, 9, 11, 13, 31, 33, '/', ':', '<', '@', 'A', 'Z', '[', '`', '{', 127, 128, 160, 255}) {
            fault(c + "slot 5;", 1, 0);
            fault("slot" + c + "5;", 1, 4);
            fault("slot 5" + c + ";", 1, 6);
            fault("slot 5;" + c, 1, 7);
            fault("slot 5; " + c, 1, 8);
        }
        // the first and the last letter and digit, and runs: a WORD has as many as there are, an N three at most
        told("late 10;", 1, 10, 2, 1, 10, 0, 0);
        told("late 90;", 1, 10, 2, 1, 90, 0, 0);
        fault("alate 5;", 1, 0);
        fault("latez 5;", 1, 0);
        fault("lateslot 5;", 1, 0);
        fault("zlot 5;", 1, 0);
        fault("late 0000;", 1, 5);
        fault("late 0001;", 1, 5);
        fault("late 1000;", 1, 5);
        fault("late 99999999999;", 1, 5);
        fault("late 1 2;", 1, 7);
        fault("late;", 1, 4);
        fault("late 5;;", 1, 7);
        fault("5 late;", 1, 0);
    }

    private static void ruleBounds() {
        String[] words = {"slot", "floor", "door", "late", "rest", "apart"};
        int[] least = {1, 0, 0, 0, 0, 0}, most = {30, 20, 20, 99, 9, 9}, plain = {10, 2, 1, 15, 0, 0};
        for (int i = 0; i < 6; i++) {
            for (int n : new int[] {least[i], most[i]}) {
                int[] row = plain.clone();
                row[i] = n;
                told(words[i] + " " + n + ";", 1, row);
            }
            fault(words[i] + " " + (most[i] + 1) + ";", 2, words[i].length() + 1);
            fault(words[i] + " 999;", 2, words[i].length() + 1);
            fault("late 5; ".repeat(i == 3 ? 0 : 1) + words[i] + " 5; " + words[i], 3, (i == 3 ? 0 : 8) + words[i].length() + 4);
        }
        fault("slot 0;", 2, 5);
        fault("slot 000;", 2, 5);
        told("apart 9; rest 9; late 99; door 20; floor 20; slot 30;", 6, 30, 20, 20, 99, 9, 9);
        told("slot 1; floor 0; door 0; late 0; rest 0; apart 0;", 6, 1, 0, 0, 0, 0, 0);
        // a text that tells less puts the others back
        ParentEve x = new ParentEve();
        Check.rules(x, "slot 30; floor 20; door 20; late 99; rest 9; apart 9;");
        due("4 no line", Check.rules(x, ""), 0);
        for (int i = 0; i < 6; i++) due("4 what isn't told, rule " + i, x.rule(i), plain[i]);
        due("5 below", x.rule(-1), -9);
        due("5 above", x.rule(6), -9);
    }

    private static void faultsOfRules() {
        // the text's length at its end, blanks behind the last TOKEN with it
        fault("s", 1, 0);
        fault("slot", 1, 4);
        fault("slot \n", 1, 6);
        fault("slot 5", 1, 6);
        fault("slot 5  ", 1, 8);
        fault("slot 5; late 3", 1, 14);
        // the first come to
        fault("slot 31; slot 5; x", 2, 5);
        fault("slot x; slot 31", 1, 5);
        fault("slot 5; slot 31 x", 3, 8);
        fault("slot 5; floor 21; slot", 2, 14);
        fault("slot 31", 2, 5);
        fault("slot 31 31", 2, 5);
        // of one TOKEN the least KIND
        fault("slot 5; late slot 5;", 1, 13);
        fault("slot 5; slot5slot", 3, 8);
        fault("slot 5555;", 1, 5);
        // a seventh line can only be told already
        String six = "slot 5;floor 5;door 5;late 5;rest 5;apart 5;";
        for (String word : new String[] {"slot", "floor", "door", "late", "rest", "apart"}) fault(six + word + " 5;", 3, six.length());
        fault(six + ";", 1, six.length());
        fault(six + "when", 1, six.length());
        told(six + "\n", 6, 5, 5, 5, 5, 5, 5);
    }

    private static int policy(String text) {
        return Check.policy(new ParentEve(), 0, text);
    }

    /** Texts as long as THE TAPE. */
    private static void longTexts() {
        told(" ".repeat(393) + "slot 5;", 1, 5, 2, 1, 15, 0, 0);
        told("slot 5;" + "\n".repeat(393), 1, 5, 2, 1, 15, 0, 0);
        fault(" ".repeat(394) + "slot 5", 1, 400);
        fault(" ".repeat(396) + "slot", 1, 400);
        fault(" ".repeat(399) + "s", 1, 399);
        fault("a".repeat(400), 1, 0);
        fault("slot " + "1".repeat(395), 1, 5);
        String line = "when late is0and late is0and late is0and late is0do wait;";
        due("6 seven lines of four and a blank", policy(line.repeat(7) + "\n"), 7);
        String eight = "when late is0and left is0and here is0do skip;".repeat(7) + line;
        due("6 eight lines, four of the last", policy(eight), 8);
        due("6 and blanks up to 400", policy(eight + " ".repeat(400 - eight.length())), 8);
        ParentEve x = new ParentEve();
        due("6 a ninth", Check.policy(x, 0, eight + " when"), -1);
        due("8 room", x.fault(0), 4);
        due("8 at its when", x.fault(1), eight.length() + 1);
        due("6 no lines came", x.count(10), 0);
    }

    private static void conds() {
        for (String fact : new String[] {"late", "waiting", "left", "must", "here", "slot"}) {
            for (String test : new String[] {"above", "below", "is"}) {
                for (String n : new String[] {"0", "000", "999"}) {
                    due("6 " + fact + " " + test + " " + n, policy("when " + fact + " " + test + " " + n + " do wait;"), 1);
                }
            }
        }
        for (String act : new String[] {"skip", "full", "wait", "swap", "short 1", "short 30", "pause 1", "pause 30", "short 001"}) {
            due("6 do " + act, policy("when late is 0 do " + act + ";"), 1);
        }
        due("6 no line", policy(""), 0);
        due("6 no line but blanks", policy("\n  "), 0);
        String cond = "late is 0";
        due("6 one", policy("when " + cond + " do skip;"), 1);
        due("6 four", policy("when " + (cond + " and ").repeat(3) + cond + " do skip;"), 1);
        for (int p = -1; p <= 4; p++) {
            ParentEve x = new ParentEve();
            boolean is = p >= 0 && p < 4;
            due("6 policy " + p, Check.policy(x, p, "when late is 0 do skip;"), is ? 1 : -2);
            for (int q = 0; q < 4; q++) due("42 lines of " + q, x.count(10 + q), q == p ? 1 : 0);
            due("6 the tape is empty", x.count(7), 0);
        }
    }

    private static void policyFault(String text, int kind, int place) {
        ParentEve x = new ParentEve();
        Check.policy(x, 3, "when late above 0 do skip;when late is 0 do full;");
        due("6 '" + text + "'", Check.policy(x, 3, text), -1);
        due("8 kind of '" + text + "'", x.fault(0), kind);
        due("8 place of '" + text + "'", x.fault(1), place);
        due("6 stays", x.count(13), 2);
        due("6 the tape is empty", x.count(7), 0);
    }

    private static void faultsOfPolicies() {
        String to = "when late is 1 do ";
        for (String act : new String[] {"short", "pause"}) {
            policyFault(to + act + " 0;", 2, 24);
            policyFault(to + act + " 31;", 2, 24);
            policyFault(to + act + " 999;", 2, 24);
            policyFault(to + act + " 0000;", 1, 24);
            policyFault(to + act + " 1000;", 1, 24);
            policyFault(to + act + ";", 1, 23);
            policyFault(to + act, 1, 23);
        }
        for (String act : new String[] {"skip", "full", "wait", "swap"}) policyFault(to + act + " 5;", 1, 23);
        policyFault("when late is 1000 do skip;", 1, 13);
        policyFault("when late is -1 do skip;", 1, 13);
        policyFault("when late is 1 do", 1, 17);
        policyFault("when late is 1 do ", 1, 18);
        policyFault("when late is 1 do skip", 1, 22);
        policyFault("when late is 1 do skip;w", 1, 23);
        policyFault("when when", 1, 5);
        policyFault("when do skip;", 1, 5);
        policyFault("when late is 1;", 1, 14);
        policyFault("when late is 1 or late is 2 do skip;", 1, 15);
        policyFault("when late late 1 do skip;", 1, 10);
        policyFault("when late above below 1 do skip;", 1, 16);
        policyFault("do skip;", 1, 0);
        policyFault("slot 5;", 1, 0);
        policyFault("when late is 1 do late;", 1, 18);
        policyFault("when late is 1 do skip; and", 1, 24);
        String cond = "late is 1 and ";
        policyFault("when " + cond.repeat(4) + "late is 1 do skip;", 4, 57);
        policyFault("when " + cond.repeat(4) + "x", 4, 57);
        policyFault("when " + cond.repeat(3) + "late is 1", 1, 56);
        policyFault("when " + cond.repeat(3) + "late is 1 skip", 1, 57);
        // the fifth of a later line, the ninth line behind a line of four
        policyFault(to + "skip;when " + cond.repeat(4), 4, 23 + 57);
        String eight = "when left is 0 do wait;".repeat(7) + "when " + "late is0and ".repeat(3) + "late is0do skip;";
        policyFault(eight + "when", 4, eight.length());
        policyFault(eight + "whe", 1, eight.length());
        policyFault(eight + ";", 1, eight.length());
        policyFault(eight + "do", 1, eight.length());
        policyFault(eight + "\n\nwhen x", 4, eight.length() + 2);
        // a FAULT ahead of what has no room
        policyFault("when left is 0 do wait;".repeat(7) + to + "pause 31;when", 2, 7 * 23 + 24);
    }

    private static void statesOfTexts() {
        ParentEve x = new ParentEve();
        due("8 ahead of any", x.fault(0), 0);
        due("8 ahead of any", x.fault(1), -1);
        x.ask(0, 0, false);
        due("4 an ask that is not laid", Check.rules(x, "slot 4;"), 1);
        x.lay(0, 19);
        due("4 one laid", Check.rules(x, "slot 5;"), -4);
        due("6 one laid", Check.policy(x, 0, "when late is 0 do skip;"), 1);
        due("6 one laid, a fault", Check.policy(x, 0, "when late is 0 do skip"), -1);
        due("7 one laid", x.follow(0, 0), -1);
        due("4 one laid", Check.rules(x, "slot 5;"), -4);
        due("8 of the latest that read", x.fault(0), 1);
        due("8 of the latest that read", x.fault(1), 22);
        due("6 no such policy", Check.policy(x, 4, ""), -2);
        due("8 of the latest that read", x.fault(1), 22);
        x.lift(0);
        due("4 none laid any more", Check.rules(x, "slot 6;"), 1);
        due("8 none", x.fault(0), 0);
        x.begin();
        due("4 begun, none laid", Check.rules(x, "slot 7;"), -4);
        due("6 begun", Check.policy(x, 0, ""), -4);
        due("6 begun, no such policy", Check.policy(x, -1, ""), -2);
        due("7 begun", x.follow(0, 3), 0);
        due("5 stays", x.rule(0), 6);
        due("42 stays", x.count(10), 1);
    }

    // ---- promises 15 to 18

    private static void asks() {
        ParentEve x = new ParentEve();
        due("15 the first family and teacher", x.ask(0, 0, false), 0);
        due("15 the last family and teacher", x.ask(14, 9, true), 1);
        due("15 the last family, another teacher", x.ask(14, 8, true), 2);
        due("15 each pair once", x.ask(14, 9, true), -4);
        due("15 each pair once, a must or not", x.ask(0, 0, true), -4);
        due("15 family 15", x.ask(15, 9, true), -2);
        due("15 teacher 10", x.ask(14, 10, true), -2);
        due("42 asks", x.count(0), 3);
        due("16 the last ask", x.may(2, 0), 1);
        due("16 no ask 3", x.may(3, 0), -2);
        due("17 no ask 3", x.lay(3, 0), -2);
        due("18 no ask 3", x.lift(3), -2);
        due("22 no ask 3", x.about(3, 0), -9);
        due("17 slot 0", x.lay(0, 0), 1);
        due("17 slot 19", x.lay(1, 19), 1);
        due("18 slot 0", x.lift(0), 0);
        due("18 slot 19", x.lift(1), 19);
        due("42 none laid", x.count(1), 0);
        x = new ParentEve();
        for (int a = 0; a < 39; a++) due("15 ask " + a, x.ask(a % 15, a / 15, false), a);
        due("15 the pair has one, and a place is left", x.ask(0, 0, false), -4);
        due("15 the fortieth", x.ask(14, 9, true), 39);
        due("15 the forty-first", x.ask(14, 8, true), -3);
        due("15 the pair has one", x.ask(14, 9, false), -4);
        due("15 no such teacher", x.ask(14, 10, false), -2);
        due("42 asks", x.count(0), 40);
        due("42 musts not laid", x.count(2), 1);
        due("22 the fortieth", x.about(39, 0), 14);
        due("22 no forty-first", x.about(40, 0), -9);
        due("17 the fortieth", x.lay(39, 19), 1);
        due("42 musts not laid", x.count(2), 0);
        due("42 laid", x.count(1), 1);
        due("18 the fortieth", x.lift(39), 19);
    }

    /** FAMILY and TEACHER are there then: at both ends of both. */
    private static void hoursOfAll() {
        int[][] spans = {{0, 19}, {0, 0}, {19, 19}, {5, 5}, {3, 16}, {1, 18}};
        for (int[] one : spans) {
            for (int[] other : spans) {
                ParentEve x = new ParentEve();
                due("10 from and to", x.teacher(9, one[0], one[1]), 1);
                due("11 from and to", x.family(14, other[0], other[1], 3), 1);
                x.ask(14, 9, false);
                mayBe("16 there", x, 0, only(Math.max(one[0], other[0]), Math.min(one[1], other[1])));
            }
        }
        for (int f = 0; f < 15; f += 14) {
            for (int[] one : spans) {
                ParentEve x = new ParentEve();
                due("12 from and to", x.wish(f, one[0], one[1], 9), 1);
                x.ask(f, 0, false);
                for (int s = 0; s < 20; s++) {
                    x.lay(0, s);
                    due("24 points in slot " + s, x.value(3), s >= one[0] && s <= one[1] ? 10 : 0);
                    x.lift(0);
                }
            }
        }
    }

    /** As many SLOTS between as the WALK takes, rounded up. */
    private static void walks() {
        // minutes of the WALK by doors alone, slots of 5
        int[] minutes = {1, 4, 5, 6, 9, 10, 11, 15, 16, 20};
        int[] between = {1, 1, 1, 2, 2, 2, 3, 3, 4, 4};
        for (int i = 0; i < minutes.length; i++) {
            ParentEve x = new ParentEve();
            Check.rules(x, "slot 5; door " + minutes[i] + ";");
            x.room(1, 1, 0);
            due("14 " + minutes[i], x.walk(0, 1), minutes[i]);
            x.ask(0, 0, false);
            x.ask(0, 1, false);
            x.lay(0, 9);
            for (int s = 0; s < 20; s++) {
                due("16 a walk of " + minutes[i] + ", slot " + s, x.may(1, s), Math.abs(s - 9) > between[i] ? 1 : 0);
            }
        }
        // the longest that fits between the first slot and the last one, and a minute more
        for (int door = 0; door < 2; door++) {
            ParentEve x = new ParentEve();
            Check.rules(x, "slot 10; floor 20; door " + door + ";");
            x.room(1, 0, 9);
            due("14 nine floors", x.walk(0, 1), 180 + door);
            x.ask(0, 0, false);
            x.ask(0, 1, false);
            x.lay(0, 0);
            mayBe("16 eighteen between", x, 1, door == 0 ? only(19, 19) : only(20, 20));
            x.lift(0);
            x.lay(0, 19);
            mayBe("16 eighteen between", x, 1, door == 0 ? only(0, 0) : only(20, 20));
        }
        ParentEve x = new ParentEve();
        Check.rules(x, "slot 1; floor 20; door 20;");
        x.room(9, 9, 9);
        x.ask(0, 0, false);
        x.ask(0, 9, false);
        x.ask(1, 9, false);
        x.lay(0, 10);
        mayBe("16 200 slots between", x, 1, only(20, 20));
        mayBe("16 of another family", x, 2, only(0, 19));
        x = new ParentEve();
        Check.rules(x, "floor 20; door 0;");
        x.room(1, 5, 0);
        due("14 another room, doors take nothing", x.walk(0, 1), 0);
        x.room(2, 0, 1);
        due("14 a floor", x.walk(0, 2), 20);
        Check.rules(x, "floor 0; door 20;");
        due("14 the like room on another floor has another door", x.walk(0, 2), 20);
        due("14 another room", x.walk(0, 1), 20);
        due("14 one and the same", x.walk(1, 1), 0);
    }

    /** rest ASKS one behind the other, and one more. */
    private static void rests() {
        for (int rest = 1; rest <= 9; rest += 4) {
            ParentEve x = new ParentEve();
            Check.rules(x, "rest " + rest + ";");
            for (int f = 0; f < 12; f++) x.ask(f, 0, false);
            for (int f = 0; f < rest - 1; f++) due("17 one of the row", x.lay(f, 5 + f), 1);
            due("17 the last of the row", x.lay(rest - 1, 4 + rest), 1);
            due("16 one more behind, rest " + rest, x.may(11, 5 + rest), 0);
            due("16 one more ahead, rest " + rest, x.may(11, 4), 0);
            due("16 with a slot between, behind", x.may(11, 6 + rest), 1);
            due("16 with a slot between, ahead", x.may(11, 3), 1);
            due("18", x.lift(0), 5);
            due("16 between is a row of rest again", x.may(11, 5), 1);
            due("16 ahead of it", x.may(11, 4), 1);
        }
        ParentEve x = new ParentEve();
        Check.rules(x, "rest 0;");
        for (int f = 0; f < 15; f++) {
            x.ask(f, 0, false);
            due("16 rest 0: as many as there are", x.lay(f, f), 1);
        }
    }

    /** No ASK of a FAMILY that is APART apart SLOTS away or fewer. */
    private static void homes() {
        for (int apart = 0; apart <= 9; apart++) {
            ParentEve x = new ParentEve();
            Check.rules(x, "apart " + apart + ";");
            due("13", x.apart(14, 0, true), 1);
            x.ask(0, 0, false);
            x.ask(14, 1, false);
            x.ask(13, 2, false);
            x.lay(0, 10);
            for (int s = 0; s < 20; s++) {
                due("16 apart " + apart + ", slot " + s, x.may(1, s), Math.abs(s - 10) > apart ? 1 : 0);
            }
            due("16 not apart", x.may(2, 10), 1);
            x.lift(0);
            x.lay(1, 0);
            due("16 the other way, first not", x.may(0, apart), 0);
            due("16 the other way, first", x.may(0, apart + 1), 1);
            x.lift(1);
            due("13 not apart any more", x.apart(0, 14, false), 1);
            x.lay(1, 10);
            due("16 not apart any more", x.may(0, 10), 1);
        }
    }

    private static void interpreters() {
        for (int tongue = 0; tongue < 4; tongue++) {
            for (int other = 0; other < 4; other++) {
                ParentEve x = new ParentEve();
                x.family(0, 0, 19, tongue);
                x.family(1, 0, 19, other);
                x.ask(0, 0, false);
                x.ask(1, 1, false);
                x.lay(0, 7);
                boolean one = tongue > 0 && tongue == other;
                due("16 tongues " + tongue + " " + other, x.may(1, 7), one ? 0 : 1);
                due("16 the slot ahead", x.may(1, 6), 1);
                due("16 the slot behind", x.may(1, 8), 1);
                x.lift(0);
                due("16 free again", x.may(1, 7), 1);
                due("17 free again", x.lay(1, 7), 1);
                due("16 the other way", x.may(0, 7), one ? 0 : 1);
                x.lift(1);
                due("11 a tongue told anew", x.family(1, 0, 19, 0), 1);
                x.lay(0, 7);
                due("16 needs none any more", x.may(1, 7), 1);
            }
        }
    }

    // ---- promises 19 to 24

    private static void layAll() {
        ParentEve x = new ParentEve();
        due("19 no asks", x.layAll(), 0);
        x.teacher(0, 4, 4);
        x.ask(0, 0, false);
        x.ask(1, 0, false);
        due("19 one of two", x.layAll(), 1);
        slots("19", x, 4, -1);
        due("19 the other may not", x.layAll(), 0);
        x = new ParentEve();
        for (int a = 0; a < 40; a++) x.ask(a % 15, a / 15, a % 2 == 0);
        due("19 all forty", x.layAll(), 40);
        due("19 none is left", x.layAll(), 0);
        // YEARS 0 and 9, the wish at both ends, then the first of all
        x = new ParentEve();
        x.wish(1, 19, 19, 9);
        x.wish(2, 19, 19, 0);
        x.wish(3, 18, 19, 8);
        for (int f = 0; f < 4; f++) x.ask(f, 0, false);
        due("19", x.layAll(), 4);
        slots("19 by years", x, 0, 19, 1, 18);
        // none of the wish may be: the first of all, from slot 0 on, to slot 19
        x = new ParentEve();
        x.teacher(0, 0, 4);
        x.wish(0, 5, 19, 0);
        x.ask(0, 0, false);
        due("19 none of the wish", x.layAll(), 1);
        slots("19 slot 0", x, 0);
        x = new ParentEve();
        x.teacher(0, 19, 19);
        x.wish(0, 0, 18, 0);
        x.ask(0, 0, false);
        due("19 none of the wish", x.layAll(), 1);
        slots("19 slot 19", x, 19);
        x = new ParentEve();
        x.wish(0, 0, 0, 0);
        x.wish(1, 0, 0, 0);
        x.wish(2, 18, 19, 0);
        for (int f = 0; f < 3; f++) x.ask(f, 0, false);
        due("19 three", x.layAll(), 3);
        slots("19 the first of the wish, of all", x, 0, 1, 18);
    }

    private static void best() {
        ParentEve x = new ParentEve();
        due("20 no asks", x.best(1), -2);
        for (int f = 0; f < 5; f++) x.ask(f, 0, false);
        due("20 none", x.best(0), -2);
        due("20 the last ask", x.best(16), 1);
        due("20 no such ask", x.best(32), -2);
        due("20 one such and one not", x.best(33), -2);
        due("20 -1", x.best(-1), -2);
        due("20 four", x.best(15), 4);
        slots("20 the least row", x, 1, 2, 3, 4, 0);
        x = new ParentEve();
        for (int a = 0; a < 40; a++) x.ask(a % 15, a / 15, false);
        due("20 bit 29", x.best(1 << 29), 1);
        due("22 bit 29", x.about(29, 3), 0);
        due("20 bit 30 is of none", x.best(1 << 30), -2);
        due("20 bit 31", x.best(1 << 31), -2);
        due("20 bits 28 and 30", x.best(1 << 28 | 1 << 30), -2);
        due("20 no such set ahead of too many", x.best(Integer.MAX_VALUE), -2);
        due("20 thirty", x.best((1 << 30) - 1), -3);
        due("20 five", x.best(31), -3);
        due("20 too many ahead of one laid", x.best(1 << 29 | 15), -3);
        due("20 four, one laid", x.best(1 << 29 | 7), -4);
        due("20 four, none laid", x.best(1 << 28 | 7), 4);
        due("22 ask 28", x.about(28, 3), 1);
        due("20 all stay but those", x.count(1), 5);
    }

    /** VALUE: MUSTS, then ASKS, then WAITS, then POINTS, each ahead of any number of the next ones. */
    private static void bestValues() {
        // one MUST ahead of three ASKS
        ParentEve x = new ParentEve();
        Check.rules(x, "apart 9;");
        for (int f = 1; f < 4; f++) x.apart(0, f, true);
        x.family(0, 10, 10, 0);
        for (int f = 1; f < 4; f++) {
            x.family(f, 8 + f, 8 + f, 0);
            x.wish(f, 0, 19, 9);
            x.ask(f, f, false);
        }
        x.ask(0, 0, true);
        due("20 a must ahead of three", x.best(15), 1);
        slots("20 a must ahead of three", x, -1, -1, -1, 10);
        due("24 musts", x.value(0), 1);
        // an ASK ahead of 18 WAITS and the most POINTS
        x = new ParentEve();
        x.family(0, 0, 19, 0);
        x.wish(0, 0, 0, 9);
        x.teacher(0, 0, 0);
        x.teacher(1, 19, 19);
        x.ask(0, 0, false);
        x.ask(0, 1, false);
        due("20 an ask ahead of waits", x.best(3), 2);
        slots("20 an ask ahead of waits", x, 0, 19);
        due("24 waits", x.value(2), 18);
        due("23 waits", x.waits(0), 18);
        due("24 points", x.value(3), 10);
        // one of WAITS ahead of 20 POINTS
        x = new ParentEve();
        Check.rules(x, "door 1;");
        x.room(1, 1, 0);
        x.wish(0, 5, 5, 9);
        x.teacher(0, 5, 6);
        x.teacher(1, 8, 8);
        x.ask(0, 0, false);
        x.ask(0, 1, false);
        due("20 waits ahead of points", x.best(3), 2);
        slots("20 waits ahead of points", x, 6, 8);
        due("24 waits", x.value(2), 1);
        due("24 points", x.value(3), 0);
        // one that fills what another leaves, a MUST or not
        for (int must = 0; must < 2; must++) {
            x = new ParentEve();
            x.teacher(1, 16, 17);
            x.teacher(2, 18, 18);
            x.ask(0, 0, false);
            x.ask(0, 1, must == 1);
            x.ask(0, 2, must == 1);
            x.lay(0, 19);
            due("20 two beside one", x.best(6), 2);
            slots("20 two beside one", x, 19, 17, 18);
            due("24 waits", x.value(2), 0);
        }
        // POINTS, then the least row
        x = new ParentEve();
        x.wish(0, 19, 19, 0);
        x.ask(0, 0, false);
        x.ask(1, 0, false);
        due("20 a point", x.best(3), 2);
        slots("20 a point, the least row", x, 19, 0);
        // one that isn't LAID is 20 in the row: the lesser ASK is laid
        x = new ParentEve();
        x.teacher(0, 19, 19);
        x.ask(0, 0, false);
        x.ask(1, 0, false);
        due("20 one", x.best(3), 1);
        slots("20 19 is less than 20", x, 19, -1);
    }

    /** What comes first in the row gives way, though all that comes behind it adds as much as one ASK can. */
    private static void bestGivesWay() {
        // to one that MAY be laid in a single SLOT, the first or the last one
        for (int only : new int[] {0, 19}) {
            ParentEve x = new ParentEve();
            x.family(0, only, only, 0);
            x.wish(1, only, only, 9);
            x.ask(1, 0, false);
            x.ask(0, 0, false);
            due("20 both", x.best(3), 2);
            slots("20 the first one elsewhere", x, only == 0 ? 1 : 0, only);
        }
        // three that MAY be in 0 .. 2, 0 .. 1, 0 alone
        ParentEve x = new ParentEve();
        for (int f = 0; f < 3; f++) {
            x.family(f, 0, 2 - f, 0);
            x.ask(f, 0, false);
        }
        due("20 three", x.best(7), 3);
        slots("20 three", x, 2, 1, 0);
        // two of one FAMILY between its others: as many WAITS wherever they are, a few POINTS more where it wishes
        for (int years = 0; years < 10; years++) {
            x = new ParentEve();
            x.wish(0, 2, 3, years);
            for (int t = 0; t < 4; t++) x.ask(0, t, false);
            x.lay(0, 0);
            x.lay(1, 4);
            due("20 two between", x.best(12), 2);
            slots("20 both where it wishes", x, 0, 4, 2, 3);
            due("24 waits", x.value(2), 1);
            due("24 points", x.value(3), 2 * (1 + years));
        }
        // three of one FAMILY in a gap of four, the first SLOT no wish
        x = new ParentEve();
        x.wish(0, 2, 4, 0);
        for (int t = 0; t < 5; t++) x.ask(0, t, t > 2);
        x.lay(0, 0);
        x.lay(1, 5);
        due("20 three between", x.best(28), 3);
        slots("20 all three where it wishes", x, 0, 5, 2, 3, 4);
    }

    private static void settle() {
        ParentEve x = new ParentEve();
        due("21 no asks", x.settle(), 0);
        for (int a = 0; a < 30; a++) x.ask(a % 15, a / 15, false);
        due("21 just thirty", x.settle(), 30);
        due("42 laid", x.count(1), 30);
        due("21 none any more", x.settle(), 0);
        x = new ParentEve();
        for (int a = 0; a < 31; a++) x.ask(a % 15, a / 15, false);
        due("21 thirty of thirty-one", x.settle(), 30);
        due("42 laid", x.count(1), 30);
        due("22 the last one waits", x.about(30, 3), -1);
        due("21 the last one", x.settle(), 1);
        due("22 is laid", x.about(30, 3), 2);
        // a change that makes VALUE no greater isn't done
        x = new ParentEve();
        x.ask(0, 0, false);
        x.lay(0, 19);
        due("21 an equal one is none", x.settle(), 0);
        slots("21", x, 19);
        // one that is LAID isn't changed for one that is not, however much greater VALUE were
        x = new ParentEve();
        x.teacher(0, 3, 3);
        x.wish(1, 3, 3, 9);
        x.ask(0, 0, false);
        x.ask(1, 0, true);
        x.lay(0, 3);
        due("21 no such change", x.settle(), 0);
        slots("21 no such change", x, 3, -1);
        // moved ones by ASK, then by SLOT
        x = new ParentEve();
        x.teacher(0, 0, 2);
        x.wish(0, 0, 0, 0);
        x.wish(1, 0, 0, 0);
        x.ask(0, 0, false);
        x.ask(1, 0, false);
        x.lay(0, 2);
        x.lay(1, 1);
        due("21 the lesser ask is moved", x.settle(), 1);
        slots("21 the lesser ask is moved", x, 0, 1);
        // changed ones by the lesser ASK
        x = new ParentEve();
        x.teacher(0, 0, 2);
        x.wish(0, 5, 5, 0);
        x.wish(1, 5, 5, 0);
        x.wish(2, 0, 1, 0);
        for (int f = 0; f < 3; f++) {
            x.ask(f, 0, false);
            x.lay(f, f);
        }
        due("21 changed with the lesser ask", x.settle(), 1);
        slots("21 changed with the lesser ask", x, 2, 1, 0);
        // laid ones first among equals, then moved ones, then changed ones
        x = new ParentEve();
        x.wish(0, 7, 7, 0);
        x.wish(1, 3, 3, 0);
        x.teacher(0, 3, 3);
        x.teacher(1, 7, 8);
        x.ask(1, 1, false);
        x.ask(0, 1, false);
        x.lay(0, 7);
        x.lay(1, 8);
        due("21 a swap alone is left", x.settle(), 1);
        slots("21 changed", x, 8, 7);
        x = new ParentEve();
        x.wish(0, 4, 5, 0);
        x.wish(1, 9, 9, 0);
        x.ask(0, 0, false);
        x.ask(1, 1, false);
        x.lay(0, 9);
        x.lay(1, 4);
        due("21 one that is greater than a move", x.settle(), 1);
        slots("21 the greatest", x, 4, 9);
        // of like ones a moved one is ahead of two that change
        x = new ParentEve();
        x.teacher(0, 4, 9);
        x.wish(0, 4, 5, 0);
        x.wish(1, 0, 0, 0);
        x.ask(0, 0, false);
        x.ask(1, 0, false);
        x.lay(0, 9);
        x.lay(1, 4);
        due("21 moved", x.settle(), 1);
        slots("21 moved", x, 5, 4);
    }

    private static void value() {
        ParentEve x = new ParentEve();
        for (int what = 0; what < 4; what++) due("24 nothing laid, what " + what, x.value(what), 0);
        due("24 what -1", x.value(-1), -1);
        due("24 what 4", x.value(4), -1);
        x.wish(14, 0, 19, 9);
        x.ask(14, 9, true);
        x.ask(14, 8, false);
        due("23 no laid ask", x.waits(14), -1);
        x.lay(0, 0);
        due("23 one laid", x.waits(14), 0);
        x.lay(1, 1);
        due("23 two side by side", x.waits(14), 0);
        x.lift(1);
        x.lay(1, 2);
        due("23 one between", x.waits(14), 1);
        x.lift(1);
        x.lay(1, 19);
        due("23 the most", x.waits(14), 18);
        due("24 musts", x.value(0), 1);
        due("24 asks", x.value(1), 2);
        due("24 waits", x.value(2), 18);
        due("24 points, nine years", x.value(3), 20);
        due("23 family 15", x.waits(15), -2);
        due("23 family -1", x.waits(-1), -2);
        due("23 another family", x.waits(13), -1);
        x.begin();
        due("23 in the evening", x.waits(14), 18);
        due("24 in the evening", x.value(3), 20);
        due("22 in the evening", x.about(0, 2), 1);
    }
}
