import com.sun.management.ThreadMXBean;
import java.io.IOException;
import java.lang.management.ManagementFactory;
import java.lang.reflect.Constructor;
import java.lang.reflect.Field;
import java.lang.reflect.Method;
import java.lang.reflect.Modifier;
import java.nio.charset.StandardCharsets;
import java.nio.file.Files;
import java.nio.file.Path;
import java.util.Set;
import java.util.TreeSet;
import java.util.regex.Matcher;
import java.util.regex.Pattern;

/** The public face as the document lists it, what LANGUAGE.md keeps out, and that calls keep far from filling the room. */
public final class FaceTest {
    private static final Check CHECK = new Check();
    private static final String[] FACE = {
        "int feed(int, int, int, int, int)", "int end(int)", "int rules()", "int rule(int)", "int policy(int)",
        "int follow(int, int)", "int fault(int)", "int room(int, int, int)", "int teacher(int, int, int)",
        "int family(int, int, int, int)", "int wish(int, int, int, int)", "int apart(int, int, boolean)",
        "int walk(int, int)", "int ask(int, int, boolean)", "int may(int, int)", "int lay(int, int)", "int lift(int)",
        "int layAll()", "int best(int)", "int settle()", "int about(int, int)", "int waits(int)", "int value(int)",
        "int habit(int, int)", "int foretold(int)", "int begin()", "int over(int, int, int)",
        "int absent(int, int, boolean)", "int comes(int, int, int)", "int away(int, int, int, int)",
        "int meeting(int, int, int)", "int off(int)", "int next(int, int)", "int messages(int)", "int mend(int)",
        "int note(int)", "int let(int, int, boolean)", "int read(int, int, int)", "int find(int)", "int found(int)",
        "int count(int)"};

    public static void main(String[] args) throws IOException {
        face();
        privateNames();
        source();
        calls();
        CHECK.end("FaceTest");
    }

    private static void face() {
        CHECK.due("NONE", ParentEve.NONE, -1);
        CHECK.due("RANGE", ParentEve.RANGE, -2);
        CHECK.due("FULL", ParentEve.FULL, -3);
        CHECK.due("STATE", ParentEve.STATE, -4);
        Class<?> c = ParentEve.class;
        CHECK.due("public and final", c.getModifiers(), Modifier.PUBLIC | Modifier.FINAL);
        Set<String> want = new TreeSet<>(Set.of(FACE));
        Set<String> got = new TreeSet<>();
        for (Method m : c.getDeclaredMethods()) {
            if (!Modifier.isPrivate(m.getModifiers())) {
                StringBuilder all = new StringBuilder(m.getReturnType() + " " + m.getName() + "(");
                for (Class<?> p : m.getParameterTypes()) {
                    all.append(all.charAt(all.length() - 1) == '(' ? "" : ", ").append(p);
                }
                got.add(all.append(")").toString());
            }
        }
        same("methods", got, want);
        Set<String> fields = new TreeSet<>();
        for (Field f : c.getDeclaredFields()) {
            if (!Modifier.isPrivate(f.getModifiers())) {
                fields.add(f.getName());
            }
        }
        same("constants", fields, Set.of("NONE", "RANGE", "FULL", "STATE"));
        for (Constructor<?> k : c.getDeclaredConstructors()) {
            CHECK.due("constructor " + k, k.getParameterCount() * 2 + (Modifier.isPublic(k.getModifiers()) ? 1 : 0), 1);
        }
    }

    private static void same(String what, Set<String> got, Set<String> want) {
        if (!got.equals(want)) {
            System.out.println(what + ": " + got + "\ndue: " + want);
        }
        CHECK.due(what + " as due", got.equals(want) ? 1 : 0, 1);
    }

    private static void privateNames() {
        Set<String> names = new TreeSet<>();
        for (String one : FACE) {
            names.add(one.substring(4, one.indexOf('(')));
        }
        for (Class<?> c : ParentEve.class.getDeclaredClasses()) {
            CHECK.due(c + " is static", Modifier.isStatic(c.getModifiers()) ? 1 : 0, 1);
            for (Method m : c.getDeclaredMethods()) {
                privateName(m, names);
            }
        }
        for (Method m : ParentEve.class.getDeclaredMethods()) {
            privateName(m, names);
        }
    }

    private static void privateName(Method m, Set<String> names) {
        if (Modifier.isPrivate(m.getModifiers())) {
            CHECK.due(m + " has a name of its own", names.contains(m.getName()) ? 1 : 0, 0);
        }
    }

    private static void source() throws IOException {
        String text = Files.readString(Path.of("src/main/java/ParentEve.java"), StandardCharsets.ISO_8859_1);
        String bare = text.replaceAll("(?s)/\\*.*?\\*/", "").replaceAll("//[^\n]*", "").replaceAll("\"[^\"\n]*\"", "\"\"");
        String[] out = {"\\bthrow\\b", "\\bthrows\\b", "\\btry\\b", "\\bcatch\\b", "\\bsynchronized\\b", "\\bassert\\b", "->", "::",
            "\\bimport\\b", "\\bpackage\\b", "\\bequals\\b", "\\bhashCode\\b", "\\btoString\\b", "\\bSystem\\.(?!arraycopy)",
            "\\bException\\b", "\\bObject\\b", "\\bvar\\b", "Exact\\b", "\\bThread\\b", "\"\"\\s*\\+", "\\+\\s*\"\""};
        for (String one : out) {
            Matcher m = Pattern.compile(one).matcher(bare);
            CHECK.due("LANGUAGE: " + one, m.find() ? 1 : 0, 0);
        }
        for (int i = 0; i < text.length(); i++) {
            if (text.charAt(i) > 127) {
                CHECK.due("LANGUAGE: a sign at " + i, text.charAt(i), '?');
            }
        }
    }

    /** 512 calls with the dearest among them: they make less than a tenth of what the room of a run holds. */
    private static void calls() {
        ThreadMXBean bean = (ThreadMXBean) ManagementFactory.getThreadMXBean();
        long id = Thread.currentThread().getId();
        dearest();
        long before = bean.getThreadAllocatedBytes(id);
        ParentEve x = new ParentEve();
        long made = bean.getThreadAllocatedBytes(id) - before;
        CHECK.due("a new object takes less than 1000000 bytes", made < 1000000 ? 1 : 0, 1);
        before = bean.getThreadAllocatedBytes(id);
        use(x);
        CHECK.due("calls take less than 4000000 bytes", bean.getThreadAllocatedBytes(id) - before < 4000000 ? 1 : 0, 1);
    }

    private static void dearest() {
        use(new ParentEve());
    }

    private static void use(ParentEve x) {
        int sum = 0;
        for (int i = 0; i < 40; i++) {
            sum += x.ask(i % 15, i / 15, i % 3 == 0);
        }
        sum += x.feed(0x77686e20, 0x68657265, 0x20697320, 0x3120646f, 0x20736b69);
        sum += x.policy(0) + x.rules() + x.best(15) + x.settle() + x.layAll() + x.begin();
        for (int i = 0; i < 80; i++) {
            sum += x.over(i, i % 40, i % 61) + x.messages(i % 15) + x.off(i) + x.mend(i);
        }
        sum += x.feed(0x41414141, 0x41414141, 0x41414141, 0x41414141, 0x41414141) + x.note(0);
        sum += x.feed(0x41414141, 0x41414141, 0x41414141, 0x41414141, 0x41414141) + x.find(0);
        if (sum == 0) {
            System.out.println("no sum");
        }
    }
}
