import java.lang.reflect.InvocationTargetException;
import java.lang.reflect.Method;
import java.util.ArrayList;
import java.util.Comparator;
import java.util.List;
import java.util.Random;

/** Calls with any numbers at all, in any order: none throws, and each answers what NaiveEve answers. */
public final class WildTest {
    private static final int[] EDGES = {-1, 0, 1, 3, 4, 5, 9, 10, 14, 15, 19, 20, 30, 39, 40, 60, 61, 399, 400, 799, 800,
        Integer.MIN_VALUE, Integer.MAX_VALUE, 1 << 30};

    public static void main(String[] args) throws IllegalAccessException, InvocationTargetException, NoSuchMethodException {
        List<Method> all = new ArrayList<>(List.of(ParentEve.class.getDeclaredMethods()));
        all.removeIf(m -> !java.lang.reflect.Modifier.isPublic(m.getModifiers()));
        all.sort(Comparator.comparing(Method::toString));
        Check check = new Check();
        for (int seed = 0; seed < 60; seed++) {
            Random lot = new Random(seed);
            ParentEve desk = new ParentEve();
            NaiveEve naive = new NaiveEve();
            for (int call = 0; call < 512; call++) {
                Method m = all.get(lot.nextInt(all.size()));
                // an evening that begins at once leaves little to see
                if (m.getName().equals("begin") && lot.nextInt(6) > 0) {
                    continue;
                }
                Object[] given = new Object[m.getParameterCount()];
                StringBuilder name = new StringBuilder("seed " + seed + ", call " + call + ": " + m.getName());
                for (int i = 0; i < given.length; i++) {
                    given[i] = m.getParameterTypes()[i] == int.class ? (Object) number(lot) : (Object) lot.nextBoolean();
                    name.append(" ").append(given[i]);
                }
                Method other = NaiveEve.class.getDeclaredMethod(m.getName(), m.getParameterTypes());
                check.due(name.toString(), (Integer) m.invoke(desk, given), (Integer) other.invoke(naive, given));
            }
        }
        check.end("WildTest");
    }

    private static int number(Random lot) {
        switch (lot.nextInt(8)) {
            case 0:
                return EDGES[lot.nextInt(EDGES.length)];
            case 1:
                return lot.nextInt(20);
            default:
                return lot.nextInt(6);
        }
    }
}
