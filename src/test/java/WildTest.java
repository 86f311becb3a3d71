import java.lang.reflect.InvocationTargetException;
import java.lang.reflect.Method;
import java.util.ArrayList;
import java.util.Arrays;
import java.util.List;

/** No call throws, whatever it is asked, in whatever state, also behind the 512th. */
public final class WildTest {
    private static final int[] EDGES = {Integer.MIN_VALUE, Integer.MAX_VALUE, -2, -1, 0, 1, 2, 3, 4, 5, 7, 8, 9, 10, 11, 12, 13,
        31, 32, 33, 99, 100, 255, 256, 400, 401, 1000000, 1000001, 4095, 4096};
    private static long drawn = 3;

    private WildTest() { }

    private static int draw(int n) {
        drawn = drawn * 6364136223846793005L + 1442695040888963407L;
        return (int) ((drawn >>> 33) % n);
    }

    private static int value(boolean tame) {
        return tame ? draw(4) : draw(3) == 0 ? (int) (drawn >>> 20) : EDGES[draw(EDGES.length)];
    }

    public static void main(String[] args) throws Exception {
        List<Method> calls = new ArrayList<>();
        for (Method m : LeftHands.class.getDeclaredMethods()) {
            if (java.lang.reflect.Modifier.isPublic(m.getModifiers())) calls.add(m);
        }
        calls.sort((a, b) -> a.getName().compareTo(b.getName()));
        int made = 0;
        for (int run = 0; run < 60; run++) {
            LeftHands x = new LeftHands();
            for (int i = 0; i < 700; i++, made++) {
                Method m = calls.get(draw(calls.size()));
                boolean tame = draw(3) > 0;
                Object[] values = new Object[m.getParameterCount()];
                for (int k = 0; k < values.length; k++) values[k] = value(tame && draw(8) > 0);
                try {
                    m.invoke(x, values);
                } catch (InvocationTargetException thrown) {
                    System.out.println(m.getName() + Arrays.toString(values) + " threw " + thrown.getCause());
                    System.exit(1);
                }
            }
        }
        System.out.println(made + " calls, none threw");
    }
}
