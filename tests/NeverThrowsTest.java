import java.lang.reflect.InvocationTargetException;
import java.lang.reflect.Method;
import java.util.Arrays;
import java.util.Comparator;
import java.util.Random;

/** Any arguments in any state: no call throws, and a refused one leaves all that about tells as it was. */
public final class NeverThrowsTest {
    private static final int[] EDGES = {Integer.MIN_VALUE, Integer.MIN_VALUE + 1, -1000000007, -33, -2, -1, 0, 1, 2, 3, 4,
        5, 6, 7, 9, 10, 31, 32, 33, 64, 222, 2122, 222222, 100000000, Integer.MAX_VALUE - 1, Integer.MAX_VALUE};
    private static int wrong = 0;

    private static String all(KeyholeNews x) {
        StringBuilder told = new StringBuilder();
        for (int what = 0; what <= 9; what++) {
            told.append(x.about(what)).append(' ');
        }
        return told.toString();
    }

    private static Object[] someArguments(Method method, Random chance) {
        Object[] arguments = new Object[method.getParameterCount()];
        for (int i = 0; i < arguments.length; i++) {
            Class<?> type = method.getParameterTypes()[i];
            int some = chance.nextInt(3) == 0 ? EDGES[chance.nextInt(EDGES.length)] : chance.nextInt(4);
            if (type == boolean.class) {
                arguments[i] = chance.nextBoolean();
            } else if (type == long.class) {
                arguments[i] = chance.nextLong();
            } else {
                arguments[i] = some;
            }
        }
        return arguments;
    }

    private static void call(KeyholeNews x, Method method, Object[] arguments) throws IllegalAccessException {
        String before = all(x);
        String told = method.getName() + Arrays.toString(arguments);
        try {
            Object answer = method.invoke(x, arguments);
            if (answer instanceof Integer && (int) answer < 0 && !all(x).equals(before)) {
                wrong++;
                System.out.println(told + " answered " + answer + " and changed " + before + "to " + all(x));
            }
        } catch (InvocationTargetException e) {
            wrong++;
            System.out.println(told + " threw " + e.getCause());
        }
    }

    public static void main(String[] args) throws IllegalAccessException {
        Method[] methods = Arrays.stream(KeyholeNews.class.getDeclaredMethods())
                .filter(method -> (method.getModifiers() & java.lang.reflect.Modifier.PUBLIC) != 0)
                .sorted(Comparator.comparing(Method::getName)).toArray(Method[]::new);
        Random chance = new Random(7);
        for (int run = 0; run < 3000; run++) {
            KeyholeNews x = new KeyholeNews();
            String text = "N9H0123H1456H2789H3999H0888H2777".substring(0, 2 + 5 * (run % 7));
            for (int i = 0; i < text.length(); i++) {
                x.write(text.charAt(i));
            }
            x.street();
            for (int i = 0; i < 20; i++) {
                Method method = methods[chance.nextInt(methods.length)];
                call(x, method, someArguments(method, chance));
            }
        }
        System.out.println(wrong == 0 ? "nothing throws" : wrong + " faults");
        if (wrong != 0) {
            System.exit(1);
        }
    }
}
