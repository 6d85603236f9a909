/** Promises 15 to 24: asks, where they may be laid, laid all, best, settled, the value. */
public final class AskTest {
    private static final Check CHECK = new Check();

    public static void main(String[] args) {
        asks();
        mayAlone();
        mayWalk();
        mayRest();
        mayApart();
        layAndLift();
        layAll();
        bestArguments();
        bestChoice();
        bestValues();
        settleMoves();
        settleSwaps();
        settleOrder();
        settleMost();
        aboutAndValue();
        evening();
        CHECK.end("AskTest");
    }

    private static void due(String call, long got, long want) {
        CHECK.due(call, got, want);
    }

    private static void mayBe(String name, ParentEve x, int a, String row) {
        for (int s = 0; s < 20; s++) {
            due("16 " + name + " slot " + s, x.may(a, s), row.charAt(s) - '0');
        }
    }

    private static void slots(String name, ParentEve x, int... row) {
        for (int a = 0; a < row.length; a++) {
            due(name + " slot of " + a, x.about(a, 3), row[a]);
        }
    }

    private static void asks() {
        ParentEve x = new ParentEve();
        due("15 no family", x.ask(-1, 0, true), -2);
        due("15 no family", x.ask(15, 0, true), -2);
        due("15 no teacher", x.ask(0, -1, true), -2);
        due("15 no teacher", x.ask(0, 10, true), -2);
        due("42 none", x.count(0), 0);
        for (int i = 0; i < 40; i++) {
            due("15 ask " + i, x.ask(14 - i % 15, 9 - i / 15, i % 2 == 0), i);
        }
        due("15 the pair has one", x.ask(14, 9, false), -4);
        due("15 full", x.ask(0, 0, false), -3);
        due("15 range first", x.ask(15, 0, false), -2);
        due("42 asks", x.count(0), 40);
        due("42 musts not laid", x.count(2), 20);
        x.layAll();
        due("15 full still", x.ask(0, 0, false), -3);
        x.begin();
        due("15 in the evening", x.ask(0, 0, false), -4);
        due("15 range first", x.ask(0, 10, false), -2);
        x = new ParentEve();
        x.ask(1, 1, false);
        x.lay(0, 1);
        due("15 with one laid", x.ask(1, 2, true), 1);
        due("15 the pair has one, a must or not", x.ask(1, 1, true), -4);
        due("22 stays", x.about(0, 2), 0);
    }

    private static void mayAlone() {
        ParentEve x = new ParentEve();
        x.family(1, 0, 19, 1);
        x.family(2, 0, 19, 1);
        x.family(3, 0, 19, 2);
        x.ask(0, 0, false);
        x.ask(0, 1, false);
        x.ask(4, 0, false);
        x.ask(1, 2, false);
        x.ask(2, 3, false);
        x.ask(3, 4, false);
        x.ask(5, 5, false);
        mayBe("nothing laid", x, 0, "11111111111111111111");
        x.lay(0, 5);
        mayBe("the family", x, 1, "11111011111111111111");
        mayBe("the teacher", x, 2, "11111011111111111111");
        mayBe("nobody of it", x, 3, "11111111111111111111");
        x.lay(3, 19);
        mayBe("the interpreter", x, 4, "11111111111111111110");
        mayBe("another interpreter", x, 5, "11111111111111111111");
        mayBe("no interpreter", x, 6, "11111111111111111111");
        due("16 no slot", x.may(1, 20), -2);
        due("16 no slot", x.may(1, -1), -2);
        due("16 no ask", x.may(7, 0), -2);
        due("16 no ask", x.may(-1, 0), -2);
        due("16 laid", x.may(0, 5), -4);
        due("16 range first", x.may(0, 20), -2);
        x.begin();
        due("16 in the evening", x.may(1, 5), 0);
        due("16 in the evening", x.may(1, 6), 1);
        due("16 in the evening, laid", x.may(0, 6), -4);
    }

    private static void mayWalk() {
        ParentEve x = new ParentEve();
        Check.rules(x, "slot 5; floor 3; door 1;");
        x.room(1, 0, 2);
        x.room(2, 3, 0);
        x.room(3, 0, 3);
        for (int t = 0; t < 5; t++) {
            x.ask(0, t, false);
        }
        x.ask(1, 1, false);
        x.lay(0, 8);
        mayBe("7 minutes, slots of 5: two between", x, 1, "11111100000111111111");
        mayBe("1 minute: one between", x, 2, "11111110001111111111");
        mayBe("10 minutes: just two", x, 3, "11111100000111111111");
        mayBe("no walk", x, 4, "11111111011111111111");
        mayBe("another family", x, 5, "11111111111111111111");
        x.lay(1, 14);
        mayBe("from both", x, 4, "11111111011100000111");
        x.lift(1);
        x.lift(0);
        x.lay(0, 0);
        mayBe("from the first slot", x, 1, "00011111111111111111");
        x.lift(0);
        x.lay(0, 19);
        mayBe("from the last slot", x, 1, "11111111111111111000");
        Check.rules(x, "");
    }

    private static void mayRest() {
        ParentEve x = new ParentEve();
        Check.rules(x, "rest 2;");
        for (int f = 0; f < 6; f++) {
            x.ask(f, 0, false);
        }
        x.ask(6, 1, false);
        x.lay(0, 3);
        mayBe("one", x, 2, "11101111111111111111");
        x.lay(1, 5);
        mayBe("between", x, 2, "11100011111111111111");
        x.lay(2, 6);
        mayBe("at the ends of two", x, 3, "11100000111111111111");
        x.lift(0);
        mayBe("ahead of two", x, 3, "11110000111111111111");
        x.lay(0, 3);
        due("17 two ahead", x.lay(3, 8), 1);
        mayBe("between two and one", x, 4, "11100000011111111111");
        mayBe("another teacher", x, 6, "11111111111111111111");
        x = new ParentEve();
        for (int f = 0; f < 6; f++) {
            x.ask(f, 0, false);
            x.lay(f, f);
        }
        due("16 rest 0 is no rule", x.about(5, 3), 5);
        x = new ParentEve();
        Check.rules(x, "rest 2;");
        for (int f = 0; f < 5; f++) {
            x.ask(f, 0, false);
        }
        x.lay(0, 1);
        x.lay(1, 2);
        x.lay(2, 17);
        x.lay(3, 18);
        mayBe("at the first and the last slot", x, 4, "00001111111111110000");
        x = new ParentEve();
        Check.rules(x, "rest 1;");
        x.ask(0, 0, false);
        x.ask(1, 0, false);
        x.lay(0, 0);
        mayBe("rest 1", x, 1, "00111111111111111111");
    }

    private static void mayApart() {
        ParentEve x = new ParentEve();
        Check.rules(x, "apart 2;");
        x.apart(0, 1, true);
        for (int f = 0; f < 4; f++) {
            x.ask(f, f, false);
        }
        x.lay(0, 10);
        mayBe("two away", x, 1, "11111111000001111111");
        mayBe("not apart", x, 2, "11111111111111111111");
        x.lift(0);
        x.apart(1, 2, true);
        x.lay(1, 0);
        x.lay(2, 19);
        mayBe("of one of them", x, 0, "00011111111111111111");
        x = new ParentEve();
        x.apart(0, 1, true);
        x.ask(0, 0, false);
        x.ask(1, 1, false);
        x.lay(1, 7);
        mayBe("apart 0: the same slot alone", x, 0, "11111110111111111111");
    }

    private static void layAndLift() {
        ParentEve x = new ParentEve();
        x.teacher(0, 2, 19);
        x.ask(0, 0, true);
        x.ask(1, 0, false);
        due("17 may not", x.lay(0, 1), 0);
        due("17 not laid", x.about(0, 3), -1);
        due("17 may", x.lay(0, 2), 1);
        due("17 laid", x.about(0, 3), 2);
        due("17 again", x.lay(0, 2), -4);
        due("17 elsewhere", x.lay(0, 5), -4);
        due("17 no slot", x.lay(0, 20), -2);
        due("17 no slot", x.lay(0, -1), -2);
        due("17 no ask", x.lay(2, 5), -2);
        due("17 no ask", x.lay(-1, 5), -2);
        due("17 may not", x.lay(1, 2), 0);
        due("42 laid", x.count(1), 1);
        due("18 not laid", x.lift(1), -4);
        due("18 no ask", x.lift(2), -2);
        due("18 no ask", x.lift(-1), -2);
        due("18", x.lift(0), 2);
        due("18 again", x.lift(0), -4);
        due("22 not laid", x.about(0, 3), -1);
        due("42 none laid", x.count(1), 0);
        due("17 free now", x.lay(1, 2), 1);
    }

    private static void layAll() {
        ParentEve x = new ParentEve();
        x.wish(1, 0, 19, 3);
        x.wish(2, 0, 19, 4);
        x.wish(3, 6, 7, 0);
        x.ask(0, 0, false);
        x.ask(1, 0, false);
        x.ask(2, 0, false);
        x.ask(3, 0, false);
        x.ask(4, 0, true);
        x.ask(5, 0, false);
        x.ask(1, 1, true);
        due("19", x.layAll(), 7);
        slots("19 musts, years, numbers", x, 3, 2, 1, 6, 0, 4, 0);
        due("19 nothing left", x.layAll(), 0);
        // MUSTS by YEARS, and a MUST without ahead of others with
        x = new ParentEve();
        x.wish(0, 0, 19, 9);
        x.wish(2, 0, 19, 1);
        x.wish(3, 0, 19, 9);
        x.ask(0, 0, false);
        x.ask(1, 0, true);
        x.ask(2, 0, true);
        x.ask(3, 0, true);
        due("19", x.layAll(), 4);
        slots("19 musts by years", x, 3, 2, 1, 0);
        x = new ParentEve();
        x.teacher(0, 4, 6);
        x.wish(0, 6, 9, 0);
        x.wish(1, 6, 9, 0);
        x.wish(2, 0, 3, 0);
        for (int f = 0; f < 4; f++) {
            x.ask(f, 0, false);
        }
        x.lay(3, 5);
        due("19 some", x.layAll(), 2);
        slots("19 the first of the wish, of all, none", x, 6, 4, -1, 5);
    }

    private static void bestArguments() {
        ParentEve x = new ParentEve();
        due("20 no ask", x.best(1), -2);
        for (int i = 0; i < 32; i++) {
            x.ask(i % 15, i / 15, false);
        }
        due("20 none", x.best(0), -2);
        due("20 below", x.best(-1), -2);
        due("20 least", x.best(Integer.MIN_VALUE), -2);
        due("20 bit 30", x.best(1 << 30), -2);
        due("20 bit 30 and another", x.best(1 << 30 | 1), -2);
        due("20 five", x.best(31), -3);
        due("20 four", x.best(15), 4);
        due("20 one is laid", x.best(17), -4);
        due("20 bit 29", x.best(1 << 29), 1);
        slots("20", x, 0, 1, 2, 3, -1);
        due("20 bit 29 laid", x.about(29, 3), 0);
        due("20 the same teacher: one behind the other", x.best(7 << 4), 3);
        slots("20", x, 0, 1, 2, 3, 4, 5, 6, -1);
    }

    private static void bestChoice() {
        ParentEve x = new ParentEve();
        x.teacher(0, 5, 6);
        x.ask(0, 0, false);
        x.ask(1, 0, true);
        x.ask(2, 0, false);
        x.ask(3, 0, true);
        due("20 two of four", x.best(15), 2);
        slots("20 the musts", x, -1, 5, -1, 6);
        x = new ParentEve();
        x.teacher(0, 5, 6);
        x.ask(0, 0, false);
        x.ask(1, 0, false);
        x.ask(2, 0, false);
        due("20 least row", x.best(7), 2);
        slots("20 least row", x, 5, 6, -1);
        // a must in the way of two others: MUSTS come ahead of ASKS
        x = new ParentEve();
        Check.rules(x, "slot 10; apart 1;");
        x.family(0, 5, 5, 0);
        x.family(1, 4, 4, 0);
        x.family(2, 6, 6, 0);
        x.apart(0, 1, true);
        x.apart(0, 2, true);
        x.ask(1, 1, false);
        x.ask(2, 2, false);
        x.ask(0, 0, true);
        due("20 the must alone", x.best(7), 1);
        slots("20 the must alone", x, -1, -1, 5);
        // none can be laid
        x = new ParentEve();
        x.family(0, 0, 3, 0);
        x.teacher(0, 4, 9);
        x.ask(0, 0, true);
        due("20 none", x.best(1), 0);
        slots("20 none", x, -1);
    }

    private static void bestValues() {
        // the fewest WAITS ahead of the most POINTS
        ParentEve x = new ParentEve();
        x.wish(0, 10, 12, 9);
        x.ask(0, 0, false);
        x.ask(0, 1, false);
        x.lay(0, 4);
        due("20 waits first", x.best(2), 1);
        slots("20 waits first", x, 4, 3);
        x.lift(1);
        x.lift(0);
        due("20 both free: in the wish", x.best(3), 2);
        slots("20 both free: in the wish", x, 10, 11);
        // one between two takes WAITS away
        x = new ParentEve();
        for (int t = 0; t < 4; t++) {
            x.ask(0, t, false);
        }
        x.lay(0, 6);
        x.lay(1, 9);
        due("23 two", x.waits(0), 2);
        due("20 between", x.best(12), 2);
        slots("20 between", x, 6, 9, 7, 8);
        due("23 none", x.waits(0), 0);
        // in the first slot and in the last
        x = new ParentEve();
        x.wish(0, 0, 0, 3);
        x.wish(1, 19, 19, 3);
        x.ask(0, 0, false);
        x.ask(1, 0, false);
        x.lay(0, 0);
        x.lift(0);
        due("20 first and last", x.best(3), 2);
        slots("20 first and last", x, 0, 19);
        // points of all, the years with them
        x = new ParentEve();
        x.teacher(0, 8, 9);
        x.wish(0, 8, 8, 0);
        x.wish(1, 8, 8, 5);
        x.ask(0, 0, false);
        x.ask(1, 0, false);
        due("20 points", x.best(3), 2);
        slots("20 points", x, 9, 8);
    }

    private static void settleMoves() {
        ParentEve x = new ParentEve();
        due("21 nothing", x.settle(), 0);
        x.wish(0, 4, 6, 0);
        x.ask(0, 0, false);
        due("21 laid in the wish", x.settle(), 1);
        slots("21", x, 4);
        x.lift(0);
        x.lay(0, 0);
        due("21 moved", x.settle(), 1);
        slots("21 the first of the best", x, 4);
        due("21 none better", x.settle(), 0);
        x = new ParentEve();
        x.family(0, 0, 0, 0);
        x.family(1, 19, 19, 0);
        x.ask(0, 0, false);
        x.ask(1, 0, false);
        due("21 in the first slot and the last", x.settle(), 2);
        slots("21 in the first slot and the last", x, 0, 19);
        // a move that makes WAITS fewer, points or not
        x = new ParentEve();
        x.wish(0, 9, 9, 9);
        x.ask(0, 0, false);
        x.ask(0, 1, false);
        x.lay(0, 3);
        x.lay(1, 9);
        due("21 waits, then points", x.settle(), 1);
        slots("21 waits, then points", x, 8, 9);
    }

    private static void settleSwaps() {
        ParentEve x = new ParentEve();
        x.teacher(0, 3, 4);
        x.wish(0, 4, 4, 0);
        x.wish(1, 3, 3, 0);
        x.ask(0, 0, false);
        x.ask(1, 0, false);
        x.lay(0, 3);
        x.lay(1, 4);
        due("21 changed", x.settle(), 1);
        slots("21 changed", x, 4, 3);
        due("24 points", x.value(3), 2);
        // the change may not be: one of them isn't there
        x = new ParentEve();
        x.teacher(0, 3, 4);
        x.wish(0, 4, 4, 0);
        x.wish(1, 3, 3, 0);
        x.family(1, 4, 19, 0);
        x.ask(0, 0, false);
        x.ask(1, 0, false);
        x.lay(0, 3);
        x.lay(1, 4);
        due("21 may not", x.settle(), 0);
        slots("21 may not", x, 3, 4);
        // of three that would change, the pair with the most points
        x = new ParentEve();
        x.teacher(0, 3, 5);
        x.wish(0, 4, 5, 1);
        x.wish(1, 3, 3, 2);
        x.wish(2, 3, 3, 3);
        for (int f = 0; f < 3; f++) {
            x.ask(f, 0, false);
            x.lay(f, 3 + f);
        }
        due("21 the most points", x.settle(), 1);
        slots("21 the most points", x, 5, 4, 3);
    }

    private static void settleOrder() {
        // the first of like ones: by ASK, by SLOT; a MUST is worth more than any
        ParentEve x = new ParentEve();
        x.teacher(0, 7, 8);
        x.ask(0, 0, false);
        x.ask(1, 0, false);
        x.ask(2, 0, true);
        due("21 two", x.settle(), 2);
        slots("21 the must first, then the least", x, 8, -1, 7);
        // of two swaps that are like, the one with the lesser ASK, then the lesser other
        x = new ParentEve();
        x.teacher(0, 0, 2);
        x.wish(0, 1, 2, 0);
        x.wish(1, 5, 6, 0);
        x.wish(2, 5, 6, 0);
        for (int f = 0; f < 3; f++) {
            x.ask(f, 0, false);
            x.lay(f, f);
        }
        due("21 one", x.settle(), 1);
        slots("21 the lesser other", x, 1, 0, 2);
    }

    private static void settleMost() {
        ParentEve x = new ParentEve();
        for (int i = 0; i < 40; i++) {
            x.ask(i % 15, i / 15, false);
        }
        due("21 thirty", x.settle(), 30);
        due("42 laid", x.count(1), 30);
        due("21 the rest, and one moved", x.settle(), 11);
        due("42 laid", x.count(1), 40);
        due("21 no more", x.settle(), 0);
    }

    private static void aboutAndValue() {
        ParentEve x = new ParentEve();
        x.ask(3, 7, true);
        x.ask(14, 9, false);
        due("22 family", x.about(0, 0), 3);
        due("22 teacher", x.about(0, 1), 7);
        due("22 must", x.about(0, 2), 1);
        due("22 slot", x.about(0, 3), -1);
        due("22 family", x.about(1, 0), 14);
        due("22 teacher", x.about(1, 1), 9);
        due("22 must", x.about(1, 2), 0);
        due("22 none such", x.about(0, 4), -9);
        due("22 none such", x.about(0, -1), -9);
        due("22 none such", x.about(2, 0), -9);
        due("22 none such", x.about(-1, 0), -9);
        x.ask(3, 8, false);
        x.ask(3, 9, true);
        due("23 nothing laid", x.waits(3), -1);
        x.lay(0, 12);
        due("23 one", x.waits(3), 0);
        x.lay(2, 2);
        due("23 two", x.waits(3), 9);
        x.lay(3, 7);
        due("23 three", x.waits(3), 8);
        x.lay(1, 0);
        due("23 another family", x.waits(14), 0);
        due("23 no family", x.waits(15), -2);
        due("23 no family", x.waits(-1), -2);
        due("24 musts", x.value(0), 2);
        due("24 asks", x.value(1), 4);
        due("24 waits", x.value(2), 8);
        due("24 points", x.value(3), 4);
        due("24 no such", x.value(4), -1);
        due("24 no such", x.value(-1), -1);
        x.ask(14, 0, false);
        x.lay(4, 19);
        due("24 waits of all families", x.value(2), 26);
    }

    private static void evening() {
        ParentEve x = new ParentEve();
        x.ask(0, 0, false);
        x.ask(1, 0, true);
        x.lay(0, 0);
        x.begin();
        due("15", x.ask(2, 0, false), -4);
        due("17", x.lay(1, 5), -4);
        due("17 range", x.lay(2, 5), -2);
        due("18", x.lift(0), -4);
        due("18 range", x.lift(2), -2);
        due("19", x.layAll(), -4);
        due("20", x.best(2), -4);
        due("20 range", x.best(4), -2);
        due("21", x.settle(), -4);
        due("16", x.may(1, 5), 1);
        due("22", x.about(0, 3), 0);
        due("23", x.waits(0), 0);
        due("24", x.value(1), 1);
    }
}
