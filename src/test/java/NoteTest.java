/** Promises 37 to 42: notes, who may read them, words found in them, counts. */
public final class NoteTest {
    private static final Check CHECK = new Check();

    public static void main(String[] args) {
        notes();
        let();
        find();
        count();
        CHECK.end("NoteTest");
    }

    private static void due(String call, long got, long want) {
        CHECK.due(call, got, want);
    }

    private static ParentEve desk() {
        ParentEve x = new ParentEve();
        x.ask(0, 0, false);
        x.ask(1, 0, false);
        x.ask(2, 9, true);
        return x;
    }

    private static void reads(String name, ParentEve x, int t, int a, String text) {
        for (int i = 0; i < text.length(); i++) {
            due(name + " byte " + i, x.read(t, a, i), text.charAt(i));
        }
        due(name + " behind", x.read(t, a, text.length()), -1);
        due(name + " ahead", x.read(t, a, -1), -1);
        due(name + " far", x.read(t, a, Integer.MAX_VALUE), -1);
        due(name + " far", x.read(t, a, Integer.MIN_VALUE), -1);
    }

    private static void notes() {
        ParentEve x = desk();
        due("37", Check.note(x, 0, "Some ~words 1"), 13);
        due("37 the tape is empty", x.count(7), 0);
        due("37 of another", Check.note(x, 2, " "), 1);
        due("42 notes", x.count(8), 2);
        reads("39 own", x, 0, 0, "Some ~words 1");
        reads("39 own", x, 9, 2, " ");
        due("39 none", x.read(0, 1, 0), -1);
        due("37 in place", Check.note(x, 0, "Other"), 5);
        reads("37 in place", x, 0, 0, "Other");
        due("42 notes", x.count(8), 2);
        due("37 empty", Check.note(x, 0, ""), -1);
        due("37 a byte 31", Check.note(x, 0, "a\037b"), -1);
        due("37 a first byte 31", Check.note(x, 0, "\037b"), -1);
        due("37 a byte 127", Check.note(x, 0, "a\177b"), -1);
        due("37 a byte 10", Check.note(x, 0, "a\n"), -1);
        due("37 a byte 200", Check.note(x, 0, "a\310"), -1);
        due("37 the tape is empty", x.count(7), 0);
        due("37 too long", Check.note(x, 0, "a".repeat(61)), -1);
        reads("37 stays", x, 0, 0, "Other");
        due("37 longest", Check.note(x, 1, "b".repeat(59) + "z"), 60);
        reads("37 longest", x, 0, 1, "b".repeat(59) + "z");
        due("42 notes", x.count(8), 3);
        due("37 no ask", Check.note(x, 3, "abc"), -2);
        due("37 the tape is empty", x.count(7), 0);
        due("37 no ask", Check.note(x, -1, "abc"), -2);
        due("39 no ask", x.read(0, 3, 0), -2);
        due("39 no ask", x.read(0, -1, 0), -2);
        due("39 no teacher", x.read(10, 0, 0), -2);
        due("39 no teacher", x.read(-1, 0, 0), -2);
        for (int i = 3; i < 40; i++) {
            x.ask(i % 15, 1 + i / 15, false);
        }
        due("37 of the last", Check.note(x, 39, "last one"), 8);
        reads("39 of the last", x, 3, 39, "last one");
        due("38 of the last", x.let(39, 9, true), 1);
        due("40 of the last", Check.find(x, 9, "one"), 1);
        due("41 of the last", x.found(0), 39);
        due("42 notes", x.count(8), 4);
        due("37 no ask", Check.note(x, 40, "abc"), -2);
        x.begin();
        due("37 in the evening", Check.note(x, 0, "late"), 4);
        reads("37 in the evening", x, 0, 0, "late");
    }

    private static void let() {
        ParentEve x = desk();
        due("38 ahead of a note", x.let(0, 5, true), 1);
        Check.note(x, 0, "abc");
        reads("39 let", x, 5, 0, "abc");
        due("39 not let", x.read(6, 0, 0), -1);
        due("39 not let of this one", x.read(5, 1, 0), -1);
        due("38 is", x.let(0, 5, true), 0);
        due("38 wasn't", x.let(0, 6, false), 0);
        Check.note(x, 0, "new");
        reads("39 still let", x, 5, 0, "new");
        due("38 no more", x.let(0, 5, false), 1);
        due("39 no more", x.read(5, 0, 0), -1);
        due("38 its own: let", x.let(0, 0, true), 1);
        due("38 its own: not", x.let(0, 0, false), 1);
        reads("39 its own in any case", x, 0, 0, "new");
        due("38 last teacher", x.let(2, 9, true), 1);
        due("38 no ask", x.let(3, 0, true), -2);
        due("38 no ask", x.let(-1, 0, true), -2);
        due("38 no teacher", x.let(0, 10, true), -2);
        due("38 no teacher", x.let(0, -1, true), -2);
    }

    private static void founds(ParentEve x, String name, int... row) {
        for (int i = 0; i < row.length; i++) {
            due(name + " found " + i, x.found(i), row[i]);
        }
        due(name + " found behind", x.found(row.length), -1);
        due(name + " found ahead", x.found(-1), -1);
        due(name + " found far", x.found(Integer.MAX_VALUE), -1);
    }

    private static void find() {
        ParentEve x = desk();
        founds(x, "41 ahead of any");
        Check.note(x, 0, "MATHS: ida,Ida2b");
        Check.note(x, 1, "mathsida z");
        Check.note(x, 2, "x[maths]");
        due("40 one", Check.find(x, 0, "Maths"), 1);
        founds(x, "41 one", 0);
        due("40 the tape is empty", x.count(7), 0);
        due("40 a run up to a number", Check.find(x, 0, "iDA"), 1);
        due("40 one letter", Check.find(x, 0, "b"), 1);
        due("40 at the end", Check.find(x, 0, "Z"), 1);
        founds(x, "41 at the end", 1);
        due("40 part of a run", Check.find(x, 0, "math"), 0);
        founds(x, "41 none");
        due("40 of two that it may read", x.let(2, 0, true), 1);
        due("40 two", Check.find(x, 0, "mathS"), 2);
        founds(x, "41 two", 0, 2);
        due("40 no word", Check.find(x, 0, "a b"), -1);
        due("40 no word", Check.find(x, 0, ""), -1);
        due("40 no word", Check.find(x, 0, "a1"), -1);
        due("40 no word", Check.find(x, 0, "@"), -1);
        due("40 no word", Check.find(x, 0, "["), -1);
        due("40 no word", Check.find(x, 0, "`"), -1);
        due("40 no word", Check.find(x, 0, "{"), -1);
        due("40 no word", Check.find(x, 0, "\351"), -1);
        due("40 too long", Check.find(x, 0, "a".repeat(21)), -1);
        due("40 no teacher", Check.find(x, 10, "maths"), -2);
        due("40 no teacher", Check.find(x, -1, "maths"), -2);
        due("40 the tape is empty", x.count(7), 0);
        founds(x, "41 the latest that told a number", 0, 2);
        due("40 who may read none", Check.find(x, 5, "maths"), 0);
        founds(x, "41 none");
        Check.note(x, 1, "a".repeat(20) + "!" + "q".repeat(21));
        due("40 longest", Check.find(x, 0, "A".repeat(20)), 1);
        due("40 longest in a longer one", Check.find(x, 0, "q".repeat(20)), 0);
        Check.note(x, 1, "w");
        due("40 one letter alone", Check.find(x, 0, "W"), 1);
        Check.note(x, 1, "(start) 1end");
        due("40 behind a sign", Check.find(x, 0, "start"), 1);
        due("40 behind a digit", Check.find(x, 0, "end"), 1);
        due("40 a first letter more", Check.find(x, 0, "tend"), 0);
        due("40 the other's alone", Check.find(x, 9, "maths"), 1);
        founds(x, "41 the other's alone", 2);
    }

    private static void count() {
        ParentEve x = desk();
        x.lay(0, 1);
        due("42 asks", x.count(0), 3);
        due("42 laid", x.count(1), 1);
        due("42 musts not laid", x.count(2), 1);
        due("42 not begun", x.count(3), 0);
        due("42 tellings", x.count(4), 0);
        due("42 missed ahead of it", x.count(5), 0);
        due("42 last end ahead of it", x.count(6), 0);
        x.lay(2, 3);
        due("42 musts not laid", x.count(2), 0);
        x.begin();
        due("42 begun", x.count(3), 1);
        due("42 none missed", x.count(5), 0);
        due("42 last end", x.count(6), 40);
        x.absent(3, 2, true);
        due("42 tellings", x.count(4), 1);
        due("42 missed", x.count(5), 1);
        due("42 last end", x.count(6), 20);
        for (int what : new int[] {-1, 9, 14, 15, Integer.MIN_VALUE, Integer.MAX_VALUE}) {
            due("42 no such " + what, x.count(what), -1);
        }
    }
}
