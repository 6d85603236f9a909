/** Promises 1 to 8: a new object, the tape, RULES, POLICIES, FAULTS. */
public final class TextTest {
    private static final Check CHECK = new Check();

    public static void main(String[] args) {
        newObject();
        tape();
        rules();
        rulesFaults();
        rulesState();
        policy();
        policyFaults();
        policyState();
        follow();
        CHECK.end("TextTest");
    }

    private static void due(String call, long got, long want) {
        CHECK.due(call, got, want);
    }

    private static void newObject() {
        ParentEve x = new ParentEve();
        int[] plain = {10, 2, 1, 15, 0, 0};
        for (int i = 0; i < 6; i++) {
            due("1 rule " + i, x.rule(i), plain[i]);
        }
        for (int i = 0; i < 9; i++) {
            due("1 count " + i, x.count(i), 0);
        }
        for (int p = 0; p < 4; p++) {
            due("1 lines of policy " + p, x.count(10 + p), 0);
        }
        for (int t = 0; t < 10; t++) {
            due("1 followed by " + t, x.follow(t, -1), -1);
        }
        due("1 no asks", x.about(0, 0), -9);
        due("1 nothing found", x.found(0), -1);
        due("8 no fault yet", x.fault(0), 0);
        due("8 no place yet", x.fault(1), -1);
    }

    private static void tape() {
        ParentEve x = new ParentEve();
        due("3 end of nothing", x.end(0), 0);
        due("3 end of too many", x.end(1), -1);
        for (int i = 1; i <= 20; i++) {
            due("2 feed " + i, x.feed(0, 0, 0, 0, 0), 20 * i);
        }
        due("2 feed over 400", x.feed(1, 1, 1, 1, 1), -3);
        due("2 nothing came of it", x.count(7), 400);
        due("3 below 0", x.end(-1), -1);
        due("3 one too many", x.end(401), -1);
        due("3 least", x.end(Integer.MIN_VALUE), -1);
        due("3 all", x.end(400), 400);
        due("3 fewer", x.end(381), 381);
        due("2 381 and 20 is over 400", x.feed(1, 1, 1, 1, 1), -3);
        due("3 one fewer", x.end(380), 380);
        due("2 just 400", x.feed(1, 1, 1, 1, 1), 400);
        due("3 few", x.end(3), 3);
        due("2 odd many", x.feed(1, 1, 1, 1, 1), 23);
        due("7 bytes", x.count(7), 23);
        // the highest byte first, of all five, and bytes of earlier calls in front
        x = new ParentEve();
        x.ask(0, 0, false);
        x.feed(0x41424344, 0x45464748, 0x494a4b4c, 0x4d4e4f50, 0x51525354);
        x.end(19);
        x.feed(0x61626364, 0, 0, 0, 0);
        x.end(23);
        due("2 as a note", x.note(0), 23);
        String all = "ABCDEFGHIJKLMNOPQRSabcd";
        for (int i = 0; i < all.length(); i++) {
            due("2 byte " + i, x.read(0, 0, i), all.charAt(i));
        }
        due("2 the tape is empty", x.count(7), 0);
    }

    private static void ruleRow(ParentEve x, String name, int... row) {
        for (int i = 0; i < 6; i++) {
            due(name + " rule " + i, x.rule(i), row[i]);
        }
    }

    private static void rules() {
        ParentEve x = new ParentEve();
        due("4 all", Check.rules(x, "slot 30; floor 20; door 20; late 99; rest 9; apart 9;"), 6);
        ruleRow(x, "4 all", 30, 20, 20, 99, 9, 9);
        due("4 the tape is empty", x.count(7), 0);
        due("5 below", x.rule(-1), -9);
        due("5 above", x.rule(6), -9);
        due("4 what isn't told is as without a text", Check.rules(x, "late 3;"), 1);
        ruleRow(x, "4 late", 10, 2, 1, 3, 0, 0);
        due("4 least", Check.rules(x, "apart0;rest 000;late 0\n;\n\nfloor00 ;door 0;slot 001;"), 6);
        ruleRow(x, "4 least", 1, 0, 0, 0, 0, 0);
        due("4 no line", Check.rules(x, ""), 0);
        ruleRow(x, "4 no line", 10, 2, 1, 15, 0, 0);
        due("4 blanks alone", Check.rules(x, " \n  "), 0);
        due("8 no fault", x.fault(0), 0);
        due("4 slot changes walks", Check.rules(x, "door 7; floor 5;"), 2);
        x.room(1, 1, 2);
        due("14 with it", x.walk(0, 1), 17);
    }

    private static void fault(String text, int kind, int place) {
        ParentEve x = new ParentEve();
        Check.rules(x, "slot 7;");
        due("4 '" + text + "'", Check.rules(x, text), -1);
        due("8 kind of '" + text + "'", x.fault(0), kind);
        due("8 place of '" + text + "'", x.fault(1), place);
        due("8 another what", x.fault(2), -1);
        due("8 another what", x.fault(-1), -1);
        due("4 stays", x.rule(0), 7);
        due("4 stays plain", x.rule(3), 15);
        due("4 the tape is empty", x.count(7), 0);
        due("4 mended", Check.rules(x, "slot 8;"), 1);
        due("8 no kind more", x.fault(0), 0);
        due("8 no place more", x.fault(1), -1);
    }

    private static void rulesFaults() {
        fault("slot", 1, 4);
        fault("slot  ", 1, 6);
        fault("slot 5", 1, 6);
        fault("slot 5; ;", 1, 8);
        fault("slot ;", 1, 5);
        fault("slots 5;", 1, 0);
        fault("slo 5;", 1, 0);
        fault("alot 5;", 1, 0);
        fault("slat 5;", 1, 0);
        fault("sloth 5;", 1, 0);
        fault("Slot 5;", 1, 0);
        fault("\tslot 5;", 1, 0);
        fault("slot\r5;", 1, 4);
        fault("slot 5.", 1, 6);
        fault("slot -5;", 1, 5);
        fault("slot 0005;", 1, 5);
        fault("slot 1234;", 1, 5);
        fault("slot 5 6;", 1, 7);
        fault("slot five;", 1, 5);
        fault("slot 5; when late 1;", 1, 8);
        fault("late 2;5;", 1, 7);
        fault("late 2;\377;", 1, 7);
        fault("late 5;;", 1, 7);
        fault("slot 0;", 2, 5);
        fault("slot 31;", 2, 5);
        fault("slot 999", 2, 5);
        fault("floor 21;", 2, 6);
        fault("door 21;", 2, 5);
        fault("late 100;", 2, 5);
        fault("rest 10;", 2, 5);
        fault("apart 10;", 2, 6);
        fault("slot 5; slot", 3, 8);
        fault("door 5; slot 3; door 5;", 3, 16);
        fault("slot 5; slot 99;", 3, 8);
        fault("slot 99; slot 5;", 2, 5);
        fault("slot 5; slots 5;", 1, 8);
    }

    private static void rulesState() {
        ParentEve x = new ParentEve();
        x.ask(0, 0, false);
        due("4 with an ask", Check.rules(x, "slot 9; late"), -1);
        x.lay(0, 0);
        due("4 laid", Check.rules(x, "slot 9;"), -4);
        due("4 the tape is empty", x.count(7), 0);
        due("4 stays", x.rule(0), 10);
        due("4 laid, with what would be a fault", Check.rules(x, "slot 9"), -4);
        due("8 the fault of the latest that read", x.fault(0), 1);
        due("8 its place", x.fault(1), 12);
        x.lift(0);
        due("4 lifted", Check.rules(x, "slot 9;"), 1);
        due("8 none now", x.fault(0), 0);
        x.begin();
        due("4 in the evening", Check.rules(x, "slot 8;"), -4);
        due("4 stays in the evening", x.rule(0), 9);
        due("4 the tape is empty, too", x.count(7), 0);
    }

    private static void policy() {
        ParentEve x = new ParentEve();
        due("6 plain", Check.policy(x, 0, "when late above 0 do skip;"), 1);
        due("6 all words", Check.policy(x, 3, "when late above 999 and waiting below 0 and left is 12 and must is 1 do full;"
            + "when here is 0 do wait;when slot below 019 do swap;when late is 1 do short 1;when late is 2 do short 30;"
            + "when late is 3 do pause 1;when late is 4 do pause 30;"), 7);
        due("42 lines", x.count(13), 7);
        due("42 lines", x.count(10), 1);
        due("42 lines", x.count(11), 0);
        due("6 the tape is empty", x.count(7), 0);
        due("6 tight", Check.policy(x, 1, "when late above0do skip;when\nlate below 5and slot is3do short9;"), 2);
        due("6 eight lines", Check.policy(x, 0, "when left is 0 do wait;".repeat(8)), 8);
        due("6 none", Check.policy(x, 0, " "), 0);
        due("42 none", x.count(10), 0);
        Check.feed(x, "when late above 0 do skip;");
        due("6 no such", x.policy(4), -2);
        due("6 the tape is empty then", x.count(7), 0);
        Check.feed(x, "when late above 0 do skip");
        due("6 no such", x.policy(-1), -2);
        due("8 it read nothing", x.fault(0), 0);
    }

    private static void policyFault(String text, int kind, int place) {
        ParentEve x = new ParentEve();
        Check.policy(x, 2, "when late above 0 do skip;when late is 0 do full;");
        due("6 '" + text + "'", Check.policy(x, 2, text), -1);
        due("8 kind of '" + text + "'", x.fault(0), kind);
        due("8 place of '" + text + "'", x.fault(1), place);
        due("6 stays", x.count(12), 2);
        due("6 the tape is empty", x.count(7), 0);
        due("6 mended", Check.policy(x, 2, "when late above 1 do skip;when late is 0 do full;when late is 1 do swap;"), 3);
        due("8 no fault", x.fault(0), 0);
        due("8 no place", x.fault(1), -1);
        due("42 lines", x.count(12), 3);
    }

    private static void policyFaults() {
        policyFault("wehn", 1, 0);
        policyFault("late above 1 do skip;", 1, 0);
        policyFault("when", 1, 4);
        policyFault("when ;", 1, 5);
        policyFault("when floor above 1 do skip;", 1, 5);
        policyFault("when late 1 do skip;", 1, 10);
        policyFault("when late above do skip;", 1, 16);
        policyFault("when late above 1000 do skip;", 1, 16);
        policyFault("when late above 1 skip;", 1, 18);
        policyFault("when late above 1 and do skip;", 1, 22);
        policyFault("when late above 1 do;", 1, 20);
        policyFault("when late above 1 do skip 1;", 1, 26);
        policyFault("when late above 1 do short;", 1, 26);
        policyFault("when late above 1 do short 0;", 2, 27);
        policyFault("when late above 1 do short 31;", 2, 27);
        policyFault("when late above 1 do pause 0;", 2, 27);
        policyFault("when late above 1 do pause 999;", 2, 27);
        policyFault("when late above 1 do pause 30", 1, 29);
        policyFault("when late above 1 do skip; do", 1, 27);
        String line = "when left is 0 do wait;";
        policyFault(line.repeat(8) + "when", 4, 184);
        policyFault(line.repeat(8) + " when late is 1 do skip;", 4, 185);
        policyFault(line.repeat(8) + ";", 1, 184);
        policyFault(line.repeat(8) + "and", 1, 184);
        policyFault("when late is 1 and late is 2 and late is 3 and late is 4 and", 4, 57);
        policyFault("when late is 1 and late is 2 and late is 3 and late is 4 or", 1, 57);
        policyFault("when late is 1 and late is 2 and late is 3 and late is 4;", 1, 56);
    }

    private static void policyState() {
        ParentEve x = new ParentEve();
        x.ask(0, 0, false);
        x.lay(0, 0);
        due("6 with one laid", Check.policy(x, 0, "when late above 0 do skip;"), 1);
        due("6 a fault", Check.policy(x, 0, "when late is 1;"), -1);
        x.begin();
        due("6 in the evening", Check.policy(x, 0, ""), -4);
        due("6 stays", x.count(10), 1);
        due("6 in the evening", Check.policy(x, 1, "when late above 0 do skip;"), -4);
        due("6 the tape is empty, too", x.count(7), 0);
        due("6 range ahead of state", Check.policy(x, 4, ""), -2);
        due("8 the latest that read", x.fault(0), 1);
        due("8 its place", x.fault(1), 14);
    }

    private static void follow() {
        ParentEve x = new ParentEve();
        due("7 first", x.follow(0, 3), -1);
        due("7 then", x.follow(0, 0), 3);
        due("7 the same", x.follow(0, 0), 0);
        due("7 another one", x.follow(9, 1), -1);
        due("7 no policy", x.follow(0, 4), -2);
        due("7 no policy", x.follow(0, -2), -2);
        due("7 no teacher", x.follow(10, 0), -2);
        due("7 no teacher", x.follow(-1, 0), -2);
        x.begin();
        due("7 in the evening", x.follow(0, -1), 0);
        due("7 none", x.follow(0, 2), -1);
    }
}
