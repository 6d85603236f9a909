import java.io.IOException;
import java.lang.reflect.InvocationTargetException;
import java.lang.reflect.Method;
import java.nio.charset.StandardCharsets;
import java.nio.file.DirectoryStream;
import java.nio.file.Files;
import java.nio.file.Path;
import java.util.regex.Matcher;
import java.util.regex.Pattern;

/** README.md: each call that it shows answers what stands behind it, and its table names each test. */
public final class ReadmeTest {
    private static final Check CHECK = new Check();
    private static final Pattern CALL = Pattern.compile("desk\\.(\\w+)\\((.*)\\);\\s*// (-?\\d+)\\b.*");

    public static void main(String[] args) throws IOException, IllegalAccessException, InvocationTargetException {
        String text = Files.readString(Path.of("README.md"), StandardCharsets.UTF_8);
        Matcher blocks = Pattern.compile("(?s)```java\n(.*?)```").matcher(text);
        int seen = 0;
        while (blocks.find()) {
            run(blocks.group(1));
            seen++;
        }
        CHECK.due("blocks of calls", seen, 2);
        try (DirectoryStream<Path> tests = Files.newDirectoryStream(Path.of("src/test/java"), "*Test.java")) {
            for (Path test : tests) {
                String name = test.getFileName().toString().replace(".java", "");
                CHECK.due("README names " + name, text.contains("| `" + name + "` |") ? 1 : 0, 1);
            }
        }
        CHECK.end("ReadmeTest");
    }

    private static void run(String block) throws IllegalAccessException, InvocationTargetException {
        ParentEve desk = null;
        for (String line : block.split("\n")) {
            Matcher m = CALL.matcher(line);
            if (line.equals("ParentEve desk = new ParentEve();")) {
                desk = new ParentEve();
            } else if (m.matches()) {
                CHECK.due(line, call(desk, m.group(1), m.group(2).isEmpty() ? new String[0] : m.group(2).split(", ")),
                    Integer.parseInt(m.group(3)));
            } else {
                CHECK.due("README: no call with an answer: " + line, 1, 0);
            }
        }
    }

    private static int call(ParentEve desk, String name, String[] given) throws IllegalAccessException, InvocationTargetException {
        for (Method m : ParentEve.class.getDeclaredMethods()) {
            if (m.getName().equals(name) && m.getParameterCount() == given.length) {
                Object[] row = new Object[given.length];
                for (int i = 0; i < given.length; i++) {
                    boolean isNumber = m.getParameterTypes()[i] == int.class;
                    row[i] = isNumber ? (Object) Integer.decode(given[i]) : (Object) Boolean.valueOf(given[i]);
                }
                return (Integer) m.invoke(desk, row);
            }
        }
        return Integer.MIN_VALUE;
    }
}
