/** The edges of NOTES and counts: promises 37 to 42. */
public final class NoteEdgeTest {
    private static final Check CHECK = new Check();

    public static void main(String[] args) {
        lengths();
        places();
        letting();
        wordLengths();
        runs();
        everyByte();
        foundAll();
        counts();
        CHECK.end("NoteEdgeTest");
    }

    private static void due(String call, long got, long want) {
        CHECK.due(call, got, want);
    }

    private static ParentEve desk() {
        ParentEve x = new ParentEve();
        x.ask(0, 0, false);
        x.ask(1, 0, false);
        return x;
    }

    /** 1 .. 60 bytes. */
    private static void lengths() {
        for (int n : new int[] {0, 1, 2, 20, 59, 60, 61, 80, 400}) {
            ParentEve x = desk();
            boolean fine = n >= 1 && n <= 60;
            due("37 " + n + " bytes", Check.note(x, 0, "a".repeat(n)), fine ? n : -1);
            due("42 notes", x.count(8), fine ? 1 : 0);
            due("42 the tape is empty", x.count(7), 0);
            due("39 the first byte", x.read(0, 0, 0), fine ? 'a' : -1);
            due("39 the last byte", x.read(0, 0, n - 1), fine ? 'a' : -1);
            due("39 behind it", x.read(0, 0, n), -1);
            due("39 ahead of it", x.read(0, 0, -1), -1);
            due("40 a word of it", Check.find(x, 0, "a"), n == 1 ? 1 : 0);
        }
        // a shorter one in place of a longer one, and one that is none
        ParentEve x = desk();
        due("37 sixty", Check.note(x, 0, "b".repeat(60)), 60);
        due("37 two in its place", Check.note(x, 0, "xy"), 2);
        due("39 the last byte", x.read(0, 0, 1), 'y');
        due("39 nothing of the older one", x.read(0, 0, 2), -1);
        due("39 nothing of the older one", x.read(0, 0, 59), -1);
        due("42 one note", x.count(8), 1);
        due("40 nothing of the older one", Check.find(x, 0, "xyb"), 0);
        due("37 none", Check.note(x, 0, ""), -1);
        due("37 none", Check.note(x, 0, "b".repeat(61)), -1);
        due("40 the older one stays", Check.find(x, 0, "xy"), 1);
        due("37 twice the same", Check.note(x, 0, "xy"), 2);
        due("42 one note", x.count(8), 1);
        due("37 of the other", Check.note(x, 1, "~ "), 2);
        due("42 two notes", x.count(8), 2);
    }

    private static void places() {
        ParentEve x = desk();
        Check.note(x, 0, "abc");
        Check.note(x, 1, "d");
        due("39 just behind", x.read(0, 0, 3), -1);
        due("39 far behind", x.read(0, 0, 60), -1);
        due("39 of the other", x.read(0, 1, 0), 'd');
        due("39 no ask 2", x.read(0, 2, 0), -2);
        due("39 no ask -1", x.read(0, -1, 0), -2);
        due("39 no teacher 10", x.read(10, 0, 0), -2);
        due("39 no teacher -1", x.read(-1, 0, 0), -2);
        due("39 the last teacher may not", x.read(9, 0, 0), -1);
        due("39 range, whatever the byte", x.read(10, 0, 99), -2);
        due("37 no ask 2", Check.note(x, 2, "e"), -2);
        due("37 no ask -1", Check.note(x, -1, "e"), -2);
        due("37 no ask 40", Check.note(x, 40, "e"), -2);
        due("37 no ask, no note", Check.note(x, 2, ""), -2);
        due("42 notes", x.count(8), 2);
    }

    private static void letting() {
        ParentEve x = desk();
        for (int t = 1; t < 10; t++) {
            due("38 let " + t, x.let(1, t, true), 1);
            due("38 it is " + t, x.let(1, t, true), 0);
        }
        Check.note(x, 0, "one");
        Check.note(x, 1, "two");
        for (int t = 0; t < 10; t++) {
            due("39 the one by " + t, x.read(t, 0, 0), t == 0 ? 'o' : -1);
            due("39 the other by " + t, x.read(t, 1, 0), 't');
            due("40 the other by " + t, Check.find(x, t, "two"), 1);
            due("41 the other by " + t, x.found(0), 1);
            due("40 the one by " + t, Check.find(x, t, "one"), t == 0 ? 1 : 0);
        }
        for (int t = 1; t < 10; t += 4) {
            due("38 not let " + t, x.let(1, t, false), 1);
            due("38 it isn't " + t, x.let(1, t, false), 0);
            due("39 no more " + t, x.read(t, 1, 0), -1);
            due("40 no more " + t, Check.find(x, t, "two"), 0);
            due("39 the others may " + t, x.read(t + 1 > 9 ? 2 : t + 1, 1, 0), 't');
        }
        due("39 its own in any case", x.read(0, 1, 0), 't');
        due("38 teacher 10", x.let(0, 10, true), -2);
        due("38 teacher -1", x.let(0, -1, true), -2);
        due("38 ask 2", x.let(2, 0, true), -2);
        due("38 ask -1", x.let(-1, 0, true), -2);
    }

    /** 1 .. 20 letters. */
    private static void wordLengths() {
        for (int n : new int[] {0, 1, 2, 19, 20, 21, 60, 400}) {
            ParentEve x = desk();
            Check.note(x, 0, "q".repeat(Math.max(1, Math.min(n, 60))));
            due("40 " + n + " letters", Check.find(x, 0, "Q".repeat(n)), n >= 1 && n <= 20 ? 1 : -1);
            due("41 found", x.found(0), n >= 1 && n <= 20 ? 0 : -1);
            due("42 the tape is empty", x.count(7), 0);
            due("40 teacher 10", Check.find(x, 10, "Q".repeat(n)), -2);
            due("40 teacher -1", Check.find(x, -1, "Q".repeat(n)), -2);
            due("42 the tape is empty", x.count(7), 0);
            due("40 another teacher", Check.find(x, 9, "q"), 0);
        }
        ParentEve x = desk();
        Check.note(x, 0, "q".repeat(21) + " " + "q".repeat(19));
        due("40 one fewer than a run", Check.find(x, 0, "q".repeat(20)), 0);
        due("40 just a run", Check.find(x, 0, "q".repeat(19)), 1);
    }

    /** Some run of letters is just the word: first, last, between; capitals as small ones. */
    private static void runs() {
        String[] yes = {"ida", "IDA", "iDa", "ida!", "!ida", " ida ", "x ida", "ida x", "1ida2", "idas ida", "ida idas", "@Ida[", "`ida{",
            "a".repeat(56) + " ida", "ida " + "a".repeat(56)};
        String[] no = {"id", "idas", "sida", "i da", "id-a", "adi", "idb", "hda", " ", "i d a", "idaida", "1d a", "zidaz"};
        for (String text : yes) {
            for (String word : new String[] {"ida", "IDA", "Ida"}) {
                ParentEve x = desk();
                Check.note(x, 1, text);
                due("40 '" + word + "' in '" + text + "'", Check.find(x, 0, word), 1);
                due("41", x.found(0), 1);
            }
        }
        for (String text : no) {
            ParentEve x = desk();
            Check.note(x, 1, text);
            due("40 'ida' in '" + text + "'", Check.find(x, 0, "ida"), 0);
            due("41", x.found(0), -1);
        }
        ParentEve x = desk();
        Check.note(x, 0, "az");
        due("40 the first and the last letter", Check.find(x, 0, "AZ"), 1);
        due("40 the other way", Check.find(x, 0, "ZA"), 0);
        Check.note(x, 0, "AZ");
        due("40 capitals in the note", Check.find(x, 0, "az"), 1);
        Check.note(x, 0, "two ida ida");
        due("40 an ask once", Check.find(x, 0, "ida"), 1);
        due("41 an ask once", x.found(1), -1);
    }

    /** A .. Z and a .. z are letters, no other byte is: in the word, and in the NOTE. */
    private static void everyByte() {
        for (int b = 0; b < 256; b++) {
            boolean letter = b >= 'A' && b <= 'Z' || b >= 'a' && b <= 'z';
            ParentEve x = desk();
            Check.note(x, 0, "k");
            String one = String.valueOf((char) b);
            due("40 word of byte " + b, Check.find(x, 0, one), !letter ? -1 : b == 'k' || b == 'K' ? 1 : 0);
            due("40 word with byte " + b, Check.find(x, 0, "ab" + one), letter ? 0 : -1);
            due("40 word from byte " + b, Check.find(x, 0, one + "ab"), letter ? 0 : -1);
            if (b >= 32 && b <= 126) {
                due("37 byte " + b, Check.note(x, 0, "ab" + one + "cd"), 5);
                due("40 a run up to byte " + b, Check.find(x, 0, "ab"), letter ? 0 : 1);
                due("40 a run from byte " + b, Check.find(x, 0, "cd"), letter ? 0 : 1);
                due("40 a run with byte " + b, Check.find(x, 0, "ab" + one + "cd"), letter ? 1 : -1);
            }
        }
    }

    private static void foundAll() {
        ParentEve x = new ParentEve();
        for (int a = 0; a < 40; a++) {
            x.ask(a % 15, a / 15, false);
            Check.note(x, a, "w");
            x.let(a, 9, true);
        }
        due("42 forty notes", x.count(8), 40);
        due("40 all forty", Check.find(x, 9, "W"), 40);
        for (int i = 0; i < 40; i++) due("41 found " + i, x.found(i), i);
        due("41 no forty-first", x.found(40), -1);
        due("41 none ahead", x.found(-1), -1);
        due("40 no word: the latest stays", Check.find(x, 9, ""), -1);
        due("41 the latest that told a number", x.found(39), 39);
        due("40 no teacher: the latest stays", Check.find(x, 10, "w"), -2);
        due("41 the latest that told a number", x.found(39), 39);
        due("40 its own fifteen", Check.find(x, 1, "w"), 15);
        due("41 the first of fifteen", x.found(0), 15);
        due("41 the last of fifteen", x.found(14), 29);
        due("41 no sixteenth", x.found(15), -1);
        due("40 none", Check.find(x, 9, "v"), 0);
        due("41 none", x.found(0), -1);
        due("40 the last ask's alone", x.let(39, 8, true), 1);
        due("40 the last ask's alone", Check.find(x, 8, "w"), 1);
        due("41 the last ask's alone", x.found(0), 39);
        due("41 stays when it may not be read any more", x.let(39, 8, false), 1);
        due("41 stays", x.found(0), 39);
    }

    private static void counts() {
        ParentEve x = new ParentEve();
        for (int what = 0; what < 9; what++) due("42 a new one, what " + what, x.count(what), 0);
        for (int what = 10; what < 14; what++) due("42 a new one, what " + what, x.count(what), 0);
        for (int what : new int[] {-2, -1, 9, 14, 15, 100}) due("42 no what " + what, x.count(what), -1);
        for (int p = 0; p < 4; p++) Check.policy(x, p, "when late is 0 do skip;".repeat(p * 2 + 2));
        for (int p = 0; p < 4; p++) due("42 lines of policy " + p, x.count(10 + p), p * 2 + 2);
        x.ask(0, 0, true);
        x.ask(1, 0, true);
        x.ask(2, 0, false);
        due("42 asks", x.count(0), 3);
        due("42 musts not laid", x.count(2), 2);
        x.lay(1, 0);
        x.lay(2, 1);
        due("42 laid", x.count(1), 2);
        due("42 musts not laid", x.count(2), 1);
        x.lift(1);
        due("42 musts not laid", x.count(2), 2);
        x.lay(1, 19);
        due("42 ahead of it none is missed", x.count(5), 0);
        due("42 ahead of it no last end", x.count(6), 0);
        x.begin();
        due("42 last end", x.count(6), 200);
        x.absent(799, 1, true);
        due("42 missed, known at 799", x.count(5), 1);
        due("42 last end, known at 799", x.count(6), 20);
        x.absent(799, 2, true);
        due("42 all missed", x.count(5), 2);
        due("42 all missed", x.count(6), 0);
        due("42 tellings", x.count(4), 2);
        x.feed(0, 0, 0, 0, 0);
        due("42 bytes", x.count(7), 20);
        x.end(7);
        due("42 bytes", x.count(7), 7);
        due("42 no what 9", x.count(9), -1);
        due("42 no what 14", x.count(14), -1);
    }
}
