/** Promises 9 to 14: rooms, hours, families, wishes, homes apart, walks. */
public final class PeopleTest {
    private static final Check CHECK = new Check();
    private static final int[] WRONG = {-1, Integer.MIN_VALUE, Integer.MAX_VALUE};

    public static void main(String[] args) {
        ranges();
        hours();
        wishes();
        homes();
        walks();
        state();
        CHECK.end("PeopleTest");
    }

    private static void due(String call, long got, long want) {
        CHECK.due(call, got, want);
    }

    private static void ranges() {
        ParentEve x = new ParentEve();
        for (int bad : WRONG) {
            due("9 teacher", x.room(bad, 0, 0), -2);
            due("9 room", x.room(0, bad, 0), -2);
            due("9 floor", x.room(0, 0, bad), -2);
            due("10 teacher", x.teacher(bad, 0, 1), -2);
            due("10 from", x.teacher(0, bad, 5), -2);
            due("10 to", x.teacher(0, 0, bad), -2);
            due("11 family", x.family(bad, 0, 1, 0), -2);
            due("11 from", x.family(0, bad, 5, 0), -2);
            due("11 to", x.family(0, 0, bad, 0), -2);
            due("11 tongue", x.family(0, 0, 1, bad), -2);
            due("12 family", x.wish(bad, 0, 1, 0), -2);
            due("12 from", x.wish(0, bad, 5, 0), -2);
            due("12 to", x.wish(0, 0, bad, 0), -2);
            due("12 years", x.wish(0, 0, 1, bad), -2);
            due("13 first", x.apart(bad, 1, true), -2);
            due("13 second", x.apart(1, bad, true), -2);
            due("14 first", x.walk(bad, 1), -2);
            due("14 second", x.walk(1, bad), -2);
        }
        due("9 greatest", x.room(9, 9, 9), 1);
        due("9 teacher 10", x.room(10, 0, 0), -2);
        due("9 room 10", x.room(0, 10, 0), -2);
        due("9 floor 10", x.room(0, 0, 10), -2);
        due("10 greatest", x.teacher(9, 19, 19), 1);
        due("10 teacher 10", x.teacher(10, 0, 19), -2);
        due("10 slot 20", x.teacher(0, 0, 20), -2);
        due("10 from above to", x.teacher(0, 4, 3), -2);
        due("11 greatest", x.family(14, 19, 19, 3), 1);
        due("11 family 15", x.family(15, 0, 19, 0), -2);
        due("11 slot 20", x.family(0, 0, 20, 0), -2);
        due("11 tongue 4", x.family(0, 0, 19, 4), -2);
        due("11 from above to", x.family(0, 4, 3, 0), -2);
        due("12 greatest", x.wish(14, 19, 19, 9), 1);
        due("12 family 15", x.wish(15, 0, 19, 0), -2);
        due("12 slot 20", x.wish(0, 0, 20, 0), -2);
        due("12 years 10", x.wish(0, 0, 19, 10), -2);
        due("12 from above to", x.wish(0, 4, 3, 0), -2);
        due("13 family 15", x.apart(15, 0, true), -2);
        due("13 family 15", x.apart(0, 15, true), -2);
        due("14 teacher 10", x.walk(10, 0), -2);
        due("14 teacher 10", x.walk(0, 10), -2);
    }

    private static void hours() {
        ParentEve x = new ParentEve();
        due("10", x.teacher(0, 3, 8), 1);
        due("11", x.family(0, 5, 10, 0), 1);
        x.ask(0, 0, false);
        for (int s = 0; s < 20; s++) {
            due("16 slot " + s, x.may(0, s), s >= 5 && s <= 8 ? 1 : 0);
        }
        due("10 again", x.teacher(0, 0, 19), 1);
        due("16 to the family's last", x.may(0, 10), 1);
        due("16 behind it", x.may(0, 11), 0);
        due("11 one slot", x.family(0, 0, 0, 0), 1);
        due("16 the one", x.may(0, 0), 1);
        due("16 no other", x.may(0, 1), 0);
    }

    private static void wishes() {
        ParentEve x = new ParentEve();
        x.ask(0, 0, false);
        x.ask(1, 1, false);
        due("12", x.wish(0, 4, 6, 9), 1);
        x.lay(0, 4);
        due("24 first of the wish", x.value(3), 10);
        due("12 laid", x.wish(0, 4, 6, 8), -4);
        x.lift(0);
        x.lay(0, 3);
        due("24 ahead of it", x.value(3), 0);
        x.lift(0);
        x.lay(0, 7);
        due("24 behind it", x.value(3), 0);
        x.lift(0);
        x.lay(0, 6);
        due("24 last of it", x.value(3), 10);
        x.lay(1, 19);
        due("24 no wish told: all slots, no years", x.value(3), 11);
    }

    private static void homes() {
        ParentEve x = new ParentEve();
        due("13", x.apart(3, 14, true), 1);
        due("13 the same", x.apart(3, 14, true), 0);
        due("13 the other way", x.apart(14, 3, true), 0);
        due("13 no more", x.apart(14, 3, false), 1);
        due("13 no more", x.apart(3, 14, false), 0);
        due("13 like ones", x.apart(3, 3, false), -2);
        due("13 never", x.apart(1, 2, false), 0);
    }

    private static void walks() {
        ParentEve x = new ParentEve();
        due("14 at first", x.walk(0, 9), 0);
        x.room(1, 5, 0);
        due("14 another room", x.walk(0, 1), 1);
        x.room(2, 0, 3);
        due("14 another floor, the like room", x.walk(2, 0), 7);
        due("14 both", x.walk(1, 2), 7);
        due("14 oneself", x.walk(2, 2), 0);
        x.room(3, 5, 0);
        due("14 the like room and floor", x.walk(3, 1), 0);
        Check.rules(x, "floor 20; door 20;");
        x.room(4, 9, 9);
        due("14 greatest", x.walk(0, 4), 200);
        due("14 greatest back", x.walk(4, 0), 200);
        Check.rules(x, "floor 0; door 0;");
        due("14 none", x.walk(4, 0), 0);
        x.begin();
        due("14 in the evening", x.walk(0, 1), 0);
    }

    private static void allAre(ParentEve x, int answer) {
        due("9", x.room(1, 1, 1), answer);
        due("10", x.teacher(1, 1, 1), answer);
        due("11", x.family(1, 1, 1, 1), answer);
        due("12", x.wish(1, 1, 1, 1), answer);
        due("13", x.apart(1, 2, true), answer);
        due("9 range first", x.room(1, 10, 1), -2);
        due("10 range first", x.teacher(1, 2, 1), -2);
        due("11 range first", x.family(1, 1, 1, 4), -2);
        due("12 range first", x.wish(1, 1, 1, 10), -2);
        due("13 range first", x.apart(1, 1, true), -2);
        due("14 at any time", x.walk(1, 1), 0);
    }

    private static void state() {
        ParentEve x = new ParentEve();
        x.ask(0, 0, false);
        allAre(x, 1);
        x.apart(1, 2, false);
        x.lay(0, 0);
        allAre(x, -4);
        x.lift(0);
        allAre(x, 1);
        x.apart(1, 2, false);
        x.begin();
        allAre(x, -4);
    }
}
