import java.lang.reflect.Method;
import java.lang.reflect.Modifier;
import java.util.ArrayList;
import java.util.Comparator;
import java.util.List;
import java.util.Random;

/** No call throws, whatever its arguments: wild ones on objects of every kind; what throws ends this test. */
public final class NeverThrowsTest {
    private static final int[] WILD = {Integer.MIN_VALUE, Integer.MIN_VALUE + 1, -100, -3, -2, -1, 0, 1, 2, 3, 4, 5, 6, 7,
        8, 9, 12, 13, 20, 21, 40, 50, 51, 60, 61, 364, 728, 729, 2000, 1 << 30, Integer.MAX_VALUE - 1,
        Integer.MAX_VALUE};
    private static final int MOST_CALLS = 512;

    public static void main(String[] args) throws ReflectiveOperationException {
        List<Method> methods = new ArrayList<>();
        for (Method method : WhichBin.class.getDeclaredMethods()) {
            if (Modifier.isPublic(method.getModifiers())) {
                methods.add(method);
            }
        }
        methods.sort(Comparator.comparing(Method::getName));
        RandomTexts texts = new RandomTexts(9);
        Random lots = new Random(9);
        for (int run = 0; run < 80; run++) {
            WhichBin x = new WhichBin();
            int left = MOST_CALLS;
            for (int i = 0; left > 0; i++) {
                if (run > 2 && i % 100 == 50) {
                    left = readIfItMay(x, texts.next(), left);
                } else {
                    Method method = methods.get(lots.nextInt(methods.size()));
                    method.invoke(x, arguments(method, lots));
                    left--;
                }
            }
        }
        Check.due("methods", methods.size(), 35);
        Check.finish("NeverThrowsTest");
    }

    /** How many calls are left then; a text for which they do not reach is left out. */
    private static int readIfItMay(WhichBin x, String text, int left) {
        int calls = (text.length() + 19) / 20 + 2;
        if (calls > left) {
            return left;
        }
        Check.read(x, text);
        return left - calls;
    }

    private static Object[] arguments(Method method, Random lots) {
        Class<?>[] types = method.getParameterTypes();
        Object[] arguments = new Object[types.length];
        for (int i = 0; i < types.length; i++) {
            if (types[i] == boolean.class) {
                arguments[i] = lots.nextBoolean();
            } else {
                arguments[i] = lots.nextInt(4) == 0 ? lots.nextInt() : WILD[lots.nextInt(WILD.length)];
            }
        }
        return arguments;
    }
}
