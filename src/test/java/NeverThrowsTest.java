import java.lang.reflect.InvocationTargetException;
import java.lang.reflect.Method;
import java.lang.reflect.Modifier;
import java.util.ArrayList;
import java.util.Comparator;
import java.util.List;
import java.util.Random;

/** Every public method, with ordinary and far-off arguments, in states of every kind: none throws. */
public final class NeverThrowsTest {
    private static final int[] EDGES = {Integer.MIN_VALUE, Integer.MIN_VALUE + 1, -100, -2, -1, 0, 1, 2, 9, 10, 11, 12,
        13, 31, 32, 33, 44, 45, 46, 59, 60, 61, 63, 64, 100, 159, 160, 161, Integer.MAX_VALUE - 1, Integer.MAX_VALUE};

    public static void main(String[] args) throws IllegalAccessException {
        List<Method> methods = new ArrayList<>();
        for (Method method : NoArmsCrossed.class.getDeclaredMethods()) {
            if (Modifier.isPublic(method.getModifiers())) {
                methods.add(method);
            }
        }
        methods.sort(Comparator.comparing(Method::getName));
        Random random = new Random(7);
        for (int run = 0; run < 150; run++) {
            NoArmsCrossed x = new NoArmsCrossed();
            x.seats(3 + random.nextInt(10));
            for (int g = random.nextInt(30); g > 0; g--) {
                x.guest(random.nextInt(7), random.nextInt(12), random.nextInt(10));
            }
            for (int call = 0; call < 600; call++) {
                call(x, methods.get(random.nextInt(methods.size())), random);
            }
        }
        Due.end("NeverThrowsTest");
    }

    private static void call(NoArmsCrossed x, Method method, Random random) throws IllegalAccessException {
        Object[] values = new Object[method.getParameterCount()];
        for (int i = 0; i < values.length; i++) {
            int any = random.nextInt(4) == 0 ? EDGES[random.nextInt(EDGES.length)] : random.nextInt(10);
            Class<?> type = method.getParameterTypes()[i];
            values[i] = type == boolean.class ? (Object) random.nextBoolean()
                : type == long.class ? (Object) (random.nextLong() >> random.nextInt(64)) : (Object) any;
        }
        int thrown = 0;
        try {
            method.invoke(x, values);
        } catch (InvocationTargetException e) {
            thrown = 1;
            System.out.println(e.getCause());
        }
        Due.is(method.getName() + java.util.Arrays.toString(values) + " throws", thrown, 0);
    }
}
