import java.io.DataInputStream;
import java.io.IOException;
import java.io.InputStream;
import java.lang.reflect.Constructor;
import java.lang.reflect.Field;
import java.lang.reflect.Method;
import java.lang.reflect.Modifier;
import java.nio.charset.StandardCharsets;
import java.nio.file.Files;
import java.nio.file.Path;
import java.util.ArrayList;
import java.util.List;
import java.util.Set;
import java.util.regex.Matcher;
import java.util.regex.Pattern;

/** What LANGUAGE.md bounds and can be counted: the library that is called, classes, fields, parameters, lengths. */
public final class LanguageTest {
    private static final Check CHECK = new Check();
    private static final Set<String> LIBRARY = Set.of("java/lang/Object.<init>", "java/lang/String.length",
        "java/lang/String.charAt", "java/lang/Math.max", "java/lang/Math.min", "java/lang/Math.abs",
        "java/lang/Integer.bitCount", "java/lang/System.arraycopy");
    private static final Set<Class<?>> CONSTANTS = Set.of(int.class, long.class, boolean.class, char.class, String.class,
        int[].class, long[].class, char[].class, byte[].class);
    private static final int CLASSES_MOST = 12;
    private static final int FIELDS_MOST = 20;
    private static final int PARAMETERS_MOST = 7;
    private static final int LINES_MOST = 60;

    public static void main(String[] args) throws IOException {
        List<Class<?>> all = new ArrayList<>(List.of(ParentEve.class));
        all.addAll(List.of(ParentEve.class.getDeclaredClasses()));
        holds("classes are few", all.size() <= CLASSES_MOST);
        for (Class<?> c : all) {
            fields(c);
            methods(c);
            library(c);
            due(c + " has no class inside a class inside", c == ParentEve.class ? 0 : c.getDeclaredClasses().length, 0);
        }
        lengths();
        CHECK.end("LanguageTest");
    }

    private static void due(String what, long got, long want) {
        CHECK.due(what, got, want);
    }

    private static void holds(String what, boolean it) {
        due(what, it ? 1 : 0, 1);
    }

    private static void fields(Class<?> c) {
        int own = 0;
        for (Field f : c.getDeclaredFields()) {
            if (Modifier.isStatic(f.getModifiers())) {
                holds(f + " is final", Modifier.isFinal(f.getModifiers()));
                holds(f + " is a constant", CONSTANTS.contains(f.getType()));
            } else {
                own++;
            }
        }
        holds(c + " has few fields: " + own, own <= FIELDS_MOST);
    }

    private static void methods(Class<?> c) {
        for (Method m : c.getDeclaredMethods()) {
            holds(m + " has few parameters", m.getParameterCount() <= PARAMETERS_MOST);
            holds(m + " is no method of the machine's own", !m.isSynthetic());
        }
        for (Constructor<?> k : c.getDeclaredConstructors()) {
            holds(k + " has few parameters", k.getParameterCount() <= PARAMETERS_MOST);
        }
    }

    /** Reads which methods a class calls, and that it has no lambda and no joined text, from what it is compiled to. */
    private static void library(Class<?> c) throws IOException {
        String file = c.getName().substring(c.getName().lastIndexOf('.') + 1) + ".class";
        try (InputStream bytes = c.getResourceAsStream(file); DataInputStream in = new DataInputStream(bytes)) {
            in.readInt();
            in.readInt();
            int n = in.readUnsignedShort();
            int[] kind = new int[n];
            int[] one = new int[n];
            int[] two = new int[n];
            String[] text = new String[n];
            for (int i = 1; i < n; i++) {
                kind[i] = in.readUnsignedByte();
                switch (kind[i]) {
                    case 1: text[i] = in.readUTF(); break;
                    case 3: case 4: in.readInt(); break;
                    case 5: case 6: in.readLong(); i++; break;
                    case 7: case 8: case 16: one[i] = in.readUnsignedShort(); break;
                    case 15: in.readUnsignedByte(); in.readUnsignedShort(); break;
                    default: one[i] = in.readUnsignedShort(); two[i] = in.readUnsignedShort(); break;
                }
            }
            for (int i = 1; i < n; i++) {
                due(file + " has no lambda, no joined text", kind[i] >= 15 && kind[i] <= 18 ? 1 : 0, 0);
                if (kind[i] == 10 || kind[i] == 11) {
                    String call = text[one[one[i]]] + "." + text[one[two[i]]];
                    holds(file + " calls " + call, LIBRARY.contains(call) || call.startsWith("ParentEve"));
                }
            }
        }
    }

    /** No method is longer than some sixty lines. */
    private static void lengths() throws IOException {
        List<String> lines = Files.readAllLines(Path.of("src/main/java/ParentEve.java"), StandardCharsets.ISO_8859_1);
        Pattern head = Pattern.compile("((?: {4}){1,2})(?! )[^/*].*\\) \\{");
        int seen = 0;
        for (int i = 0; i < lines.size(); i++) {
            Matcher m = head.matcher(lines.get(i));
            if (m.matches() && !m.group().trim().matches("(if|for|while|switch) .*")) {
                int end = i;
                while (end < lines.size() && !lines.get(end).equals(m.group(1) + "}")) {
                    end++;
                }
                holds("line " + (i + 1) + ": a short method", end - i < LINES_MOST);
                seen++;
            }
        }
        holds("methods were seen: " + seen, seen > 100);
    }
}
