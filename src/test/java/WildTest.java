import java.lang.reflect.InvocationTargetException;
import java.lang.reflect.Method;
import java.util.ArrayList;
import java.util.Arrays;
import java.util.List;

/** No call throws, whatever it is asked, in whatever state, also behind the 512th. */
public final class WildTest {
    private static final int[] EDGES = {Integer.MIN_VALUE, Integer.MAX_VALUE, -2, -1, 0, 1, 2, 3, 4, 5, 7, 8, 9, 10, 11, 12, 13,
        31, 32, 33, 99, 100, 255, 256, 400, 401, 1000000, 1000001, 4095, 4096};
    private static long drawn = 3;

    private WildTest() { }

    private static int draw(int n) {
        drawn = drawn * 6364136223846793005L + 1442695040888963407L;
        return (int) ((drawn >>> 33) % n);
    }

    private static int value(boolean tame) {
        return tame ? draw(4) : draw(3) == 0 ? (int) (drawn >>> 20) : EDGES[draw(EDGES.length)];
    }

    private static LeftHands full() {
        LeftHands x = Checks.ring(1, 2, 3, 4, 5, 6, 7, 8, 9, 1, 2, 3);
        for (int l = 0; l < 8; l++) x.load(1 + draw(3), draw(12), draw(12), draw(100), draw(10), draw(300));
        String[] laws = {"bars if minute<9 or waits>3", "first haste-waits;fee asks*2", "fee 1000/[load-stand]", "bars if left=0-1",
            "first minute;bars if strength=asks", "fee weight*weight"};
        for (String text : laws) Checks.law(x, text);
        x.force(draw(7) - 1);
        for (int k = 0; k < 8; k++) x.sign(draw(12), draw(100));
        x.image(0);
        return x;
    }

    public static void main(String[] args) throws Exception {
        List<Method> calls = new ArrayList<>();
        for (Method m : LeftHands.class.getDeclaredMethods()) {
            if (java.lang.reflect.Modifier.isPublic(m.getModifiers())) calls.add(m);
        }
        calls.sort((a, b) -> a.getName().compareTo(b.getName()));
        int made = 0;
        for (int run = 0; run < 60; run++) {
            LeftHands x = run % 2 == 0 ? new LeftHands() : full();
            for (int i = 0; i < 700; i++, made++) {
                Method m = calls.get(draw(calls.size()));
                boolean tame = draw(3) > 0;
                Object[] values = new Object[m.getParameterCount()];
                for (int k = 0; k < values.length; k++) values[k] = value(tame && draw(8) > 0);
                try {
                    m.invoke(x, values);
                } catch (InvocationTargetException thrown) {
                    System.out.println(m.getName() + Arrays.toString(values) + " threw " + thrown.getCause());
                    System.exit(1);
                }
            }
        }
        System.out.println(made + " calls, none threw");
    }
}
