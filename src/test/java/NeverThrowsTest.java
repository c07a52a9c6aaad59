import java.lang.reflect.InvocationTargetException;
import java.lang.reflect.Method;
import java.util.Arrays;
import java.util.Comparator;
import java.util.Random;

/** LANGUAGE.md, 7: no call throws, for any arguments in any state, and long behind the 512th call too. */
public final class NeverThrowsTest {
    private static final int OBJECTS = 60, CALLS = 4000;
    private static final int[] EDGES = {Integer.MIN_VALUE, Integer.MIN_VALUE + 1, -100, -2, -1, 0, 1, 2, 3, 5, 6, 7, 8, 9, 10, 11, 12, 13, 16, 23, 24, 25, 39, 40, 41, 59, 60, 61,
        99, 100, 149, 150, 160, 200, 300, 364, 365, 366, 575, 576, 577, 999, 1000, 2323, 2324, 2400, 3285, 3649, 3650, 4950, 9949, 2000000000, 2000000001,
        Integer.MAX_VALUE - 6, Integer.MAX_VALUE - 1, Integer.MAX_VALUE};
    private static final Checks IT = new Checks("never throws");

    public static void main(String[] args) throws Exception {
        Method[] face = AcresPaid.class.getDeclaredMethods();
        face = Arrays.stream(face).filter(m -> (m.getModifiers() & 1) == 1).toArray(Method[]::new);
        Arrays.sort(face, Comparator.comparing(Method::getName));
        for (int seed = 0; seed < OBJECTS; seed++) {
            run(face, new Random(seed), seed % 2 == 0 ? new AcresPaid() : Scene.told(), 4 + seed % 20);
        }
        IT.end();
    }

    private static void run(Method[] face, Random random, AcresPaid x, int small) throws Exception {
        for (int i = 0; i < CALLS; i++) {
            Method m = face[random.nextInt(face.length)];
            if (m.getName().equals("days") && random.nextInt(20) > 0) {
                continue;
            }
            if (m.getName().equals("corner") && random.nextInt(4) > 0) {
                Checks.box(x, random.nextInt(12), random.nextInt(12), 12 + random.nextInt(13), 12 + random.nextInt(13));
                continue;
            }
            if (m.getName().equals("feed") && random.nextInt(3) > 0) {
                x.feed(1, "yksfgctlepmjb0123456789!-()|&<=>+*/%?;".charAt(random.nextInt(38)));
                continue;
            }
            IT.due(m.getName() + " threw nothing", 0, throwsWith(m, random, x, small) ? 1 : 0);
        }
    }

    private static boolean throwsWith(Method m, Random random, AcresPaid x, int small) throws Exception {
        Object[] with = new Object[m.getParameterCount()];
        for (int i = 0; i < with.length; i++) {
            int v = random.nextInt(10) > 0 ? random.nextInt(small) : EDGES[random.nextInt(EDGES.length)];
            with[i] = m.getParameterTypes()[i] == long.class ? (Object) (long) v : (Object) v;
        }
        try {
            m.invoke(x, with);
            return false;
        } catch (InvocationTargetException e) {
            System.out.println(m.getName() + Arrays.toString(with) + " threw " + e.getCause());
            return true;
        }
    }
}
