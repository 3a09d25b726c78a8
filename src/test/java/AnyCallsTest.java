import java.lang.reflect.Method;
import java.lang.reflect.Modifier;
import java.util.ArrayList;
import java.util.Comparator;
import java.util.List;
import java.util.Random;

/** Whatever is called in whatever state: no call throws, and the same calls have the same answers. */
public final class AnyCallsTest {
    private static final int[] EDGES = {0, 0, 1, 1, 2, 3, 4, 5, 9, 10, 12, 13, 15, 16, 20, 31, 32, 39, 40, 41, 50, 60, 61,
        -1, -2, 1600, 1 << 31, Integer.MAX_VALUE, 2_000_000_000, 2_000_000_001, 1023};

    public static void main(String[] args) throws Exception {
        List<Method> methods = new ArrayList<>();
        for (Method m : CardsAtYule.class.getDeclaredMethods()) {
            if (Modifier.isPublic(m.getModifiers())) {
                methods.add(m);
            }
        }
        methods.sort(Comparator.comparing(Method::getName));
        Due due = new Due();
        due.is("methods of the face", methods.size(), 63);
        for (int seed = 0; seed < 150; seed++) {
            due.is("the same answers from " + seed, answers(methods, seed), answers(methods, seed));
        }
        due.end();
    }

    private static long answers(List<Method> methods, int seed) throws Exception {
        Random random = new Random(seed);
        CardsAtYule x = new CardsAtYule();
        long sum = 0;
        for (int i = 0; i < 512; i++) {
            if (random.nextInt(60) == 0 || i == 0 && seed % 3 != 0) {
                sum = 31 * sum + Due.tell(x, Model.random(random, 40).text());
            }
            Method m = methods.get(random.nextInt(methods.size()));
            Object[] with = new Object[m.getParameterCount()];
            for (int k = 0; k < with.length; k++) {
                int number = random.nextInt(3) == 0 ? EDGES[random.nextInt(EDGES.length)] : random.nextInt(4);
                if (m.getParameterTypes()[k] == long.class) {
                    with[k] = (long) number;
                } else {
                    with[k] = number;
                }
            }
            sum = 31 * sum + ((Number) m.invoke(x, with)).longValue();
        }
        return sum;
    }
}
