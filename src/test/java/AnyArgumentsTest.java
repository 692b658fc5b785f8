import java.lang.reflect.InvocationTargetException;
import java.lang.reflect.Method;
import java.lang.reflect.Modifier;
import java.util.ArrayList;
import java.util.Arrays;
import java.util.Comparator;
import java.util.List;

/** No call throws, whatever its arguments, in whatever state: all pairs of odd numbers, in hands of several kinds. */
public final class AnyArgumentsTest {
    private static final int[] ODD = {Integer.MIN_VALUE, Integer.MIN_VALUE + 1, -1000000, -257, -256, -33, -32, -10, -9, -3,
        -2, -1, 0, 1, 2, 3, 4, 5, 6, 7, 8, 9, 10, 11, 30, 31, 32, 33, 39, 40, 41, 59, 60, 61, 63, 64, 65, 99, 119, 120,
        121, 255, 256, 999, 1000, 1 << 30, Integer.MAX_VALUE - 1, Integer.MAX_VALUE};
    private static final String[] TEXTS = {"", "g0;v0;s1;", "c1 0 0 5;", "g9;v9;s60;c30 30 9 5;c1 30 9 0;",
        "g9;v0;s1;c1 0 1 1;c1 1 1 2;c1 2 1 3;c1 3 1 4;c1 4 1 5;c1 5 1 0;"};

    public static void main(String[] args) throws ReflectiveOperationException {
        List<Method> methods = new ArrayList<>();
        for (Method method : VelvetHand.class.getDeclaredMethods()) {
            if (Modifier.isPublic(method.getModifiers())) {
                methods.add(method);
            }
        }
        methods.sort(Comparator.comparing(Method::getName));
        Checks.due("so many methods", 24, methods.size());
        for (String text : TEXTS) {
            for (Method method : methods) {
                callWithAll(text, method);
            }
        }
        Checks.end();
    }

    private static void callWithAll(String text, Method method) throws ReflectiveOperationException {
        int parameters = method.getParameterCount();
        int[] chosen = new int[parameters];
        int many = (int) Math.pow(ODD.length, Math.min(2, parameters));
        VelvetHand hand = null;
        for (int i = 0; i < many; i++) {
            // A new hand ahead of the 512th call, each in another state.
            if (i % 300 == 0) {
                hand = used(text, i / 300);
            }
            for (int p = 0; p < parameters; p++) {
                chosen[p] = ODD[(p == 0 ? i : p == 1 ? i / ODD.length : i * 7 / 3) % ODD.length];
            }
            call(hand, method, chosen);
        }
    }

    private static VelvetHand used(String text, int how) {
        VelvetHand hand = Checks.told(text);
        for (int i = 0; i < how % 5 * 3; i++) {
            hand.shakes(i % 6, i % 2);
            hand.lines(i % 10);
            hand.tells(i % 2, 1 + i % 9, how % 2);
            hand.keep(i % 3);
        }
        return hand;
    }

    private static void call(VelvetHand hand, Method method, int[] chosen) throws IllegalAccessException {
        Object[] arguments = new Object[chosen.length];
        for (int p = 0; p < chosen.length; p++) {
            arguments[p] = chosen[p];
        }
        String what = method.getName() + Arrays.toString(chosen);
        try {
            Object answer = method.invoke(hand, arguments);
            Checks.due(what + " answers a number", 1, answer instanceof Number ? 1 : 0);
        } catch (InvocationTargetException thrown) {
            Checks.due(what + " throws " + thrown.getCause(), 1, 0);
        }
    }
}
