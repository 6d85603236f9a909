import java.nio.charset.StandardCharsets;

/** Counts the answers that are not as due, and helps to feed texts. */
final class Check {
    private int wrong = 0;
    private int asked = 0;

    void due(String call, long got, long want) {
        asked++;
        if (got != want) {
            wrong++;
            System.out.println(call + " answered " + got + ", due is " + want);
        }
    }

    void end(String name) {
        System.out.println(name + ": " + asked + " answers, " + wrong + " not as due");
        if (wrong != 0) {
            System.exit(1);
        }
    }

    /** Puts a text on the tape of a desk, whose tape is to be empty. */
    static void feed(ParentEve desk, String text) {
        byte[] bytes = text.getBytes(StandardCharsets.ISO_8859_1);
        for (int i = 0; i < bytes.length; i += 20) {
            desk.feed(four(bytes, i), four(bytes, i + 4), four(bytes, i + 8), four(bytes, i + 12), four(bytes, i + 16));
        }
        desk.end(bytes.length);
    }

    static int four(byte[] bytes, int from) {
        int all = 0;
        for (int i = from; i < from + 4; i++) {
            all = all << 8 | (i < bytes.length ? bytes[i] & 255 : 0);
        }
        return all;
    }

    static int rules(ParentEve desk, String text) {
        feed(desk, text);
        return desk.rules();
    }

    static int policy(ParentEve desk, int p, String text) {
        feed(desk, text);
        return desk.policy(p);
    }

    static int note(ParentEve desk, int a, String text) {
        feed(desk, text);
        return desk.note(a);
    }

    static int find(ParentEve desk, int t, String word) {
        feed(desk, word);
        return desk.find(t);
    }
}
