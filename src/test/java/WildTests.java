import java.lang.reflect.InvocationTargetException;
import java.lang.reflect.Method;
import java.lang.reflect.Modifier;
import java.util.ArrayList;
import java.util.Comparator;
import java.util.List;
import java.util.Random;

/** Any call with any arguments in any state: none throws, and the same calls give the same answers again. */
public final class WildTests extends Kit {
    private static final int[] ARGUMENTS = {-3, -2, -1, -1, 0, 0, 0, 0, 1, 1, 1, 2, 2, 3, 4, 5, 6, 7, 9, 10, 11, 13, 15, 20, 24, 31, 32, 60, 61,
        99, 300, 599, 600, 1365, 5459, 5460, 5461, Integer.MAX_VALUE, Integer.MIN_VALUE};
    private static final String[] TOLD = {"text 0 1 2 3;kin 0 1;kin 1 2;reader;shift 0;swap 1;reader;drop 3;reader;double 2;turn;shift 1;",
        "text 1 1 1 1 1 1;reader;reader;turn;reader;swap 5;reader;drop 6;drop 1;reader;double 6;double 1;", "", "text;reader;",
        "read 0 0;read 1 4;copy 0 1;hush 2;seal 3;restore 3;day;", "day;hush 0;read 0 1;copy 0 3;restore 2;", "seen 0;", "seen 9;seen 1 0 1;",
        "seen 1 1 0 2 3;", "text 9;", "seen 10", "reader;shift"};

    public static void main(String[] args) throws Exception {
        List<Method> methods = new ArrayList<>();
        for (Method m : ReadAloud.class.getDeclaredMethods()) {
            if (Modifier.isPublic(m.getModifiers())) {
                methods.add(m);
            }
        }
        methods.sort(Comparator.comparing(Method::getName));
        int wrong = 0;
        for (int seed = 0; seed < 150; seed++) {
            try {
                long one = run(methods, seed);
                if (one != run(methods, seed)) {
                    wrong++;
                    System.out.println("seed " + seed + ": other answers the second time");
                }
            } catch (InvocationTargetException e) {
                wrong++;
                System.out.println("seed " + seed + " threw");
                e.getCause().printStackTrace(System.out);
            }
        }
        System.out.println(wrong == 0 ? "nothing was thrown" : wrong + " runs are wrong");
        if (wrong != 0) {
            System.exit(1);
        }
    }

    private static long run(List<Method> methods, int seed) throws Exception {
        Random random = new Random(seed);
        ReadAloud x = new ReadAloud();
        long sum = 0;
        int calls = 0;
        while (calls < 500) {
            if (random.nextInt(16) == 0) {
                String told = TOLD[random.nextInt(TOLD.length)];
                sum = 31 * sum + tell(x, random.nextInt(3), random.nextInt(3) - 1, told);
                calls += 4 + told.length() / 20;
                continue;
            }
            calls++;
            Method m = methods.get(random.nextInt(methods.size()));
            Object[] arguments = new Object[m.getParameterCount()];
            for (int k = 0; k < arguments.length; k++) {
                arguments[k] = m.getParameterTypes()[k] == boolean.class ? (Object) random.nextBoolean()
                    : m.getName().equals("feed") ? random.nextInt() : ARGUMENTS[random.nextInt(ARGUMENTS.length)];
            }
            sum = 31 * sum + m.invoke(x, arguments).hashCode();
        }
        return sum;
    }
}
