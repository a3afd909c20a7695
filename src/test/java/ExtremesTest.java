import java.lang.reflect.InvocationTargetException;
import java.lang.reflect.Method;
import java.util.NoSuchElementException;
import java.util.Random;

/** No call throws but hidden, and that one only what the document names, whatever it is called with. */
final class ExtremesTest {
    private static final int[] ODD = {Integer.MIN_VALUE, Integer.MIN_VALUE + 1, -100000, -3, -2, -1, 0, 1, 2, 3, 5, 9,
        10, 11, 12, 13, 31, 32, 33, 63, 64, 99, 100, 1023, 1024, 9999, 10000, Integer.MAX_VALUE - 1,
        Integer.MAX_VALUE};

    private ExtremesTest() {
    }

    public static void main(String[] args) throws Exception {
        Random random = new Random(5);
        String ring = Check.pupils(6) + "say a b 0;say b c 1;say c a 0;slip 3;" + "bench row 3 worth 1;".repeat(3);
        String[] texts = {"", Check.pupils(1), Check.pupils(2) + "bench row 1 worth 1;", Check.pupils(5) + "say a b 0;",
            ring, Check.pupils(8) + "wish above-below;", Check.pupils(10) + "bench row 1 worth 0;".repeat(6)};
        for (String text : texts) {
            for (int round = 0; round < 4; round++) {
                BenchOrder x = Check.of(text);
                for (int call = 0; call < 400; call++) {
                    for (Method m : BenchOrder.class.getDeclaredMethods()) {
                        if (java.lang.reflect.Modifier.isPublic(m.getModifiers()) && !m.getName().equals("school")) {
                            call(x, m, random);
                        }
                    }
                }
            }
        }
        Check.end();
    }

    private static void call(BenchOrder x, Method m, Random random) throws IllegalAccessException {
        Object[] with = new Object[m.getParameterCount()];
        for (int i = 0; i < with.length; i++) {
            Class<?> type = m.getParameterTypes()[i];
            if (type == long.class) {
                with[i] = random.nextLong();
            } else if (type == boolean.class) {
                with[i] = random.nextBoolean();
            } else {
                with[i] = random.nextInt(3) == 0 ? ODD[random.nextInt(ODD.length)] : random.nextInt(12) - 1;
            }
        }
        try {
            m.invoke(x, with);
        } catch (InvocationTargetException e) {
            boolean named = m.getName().equals("hidden") && e.getCause().getClass() == NoSuchElementException.class;
            Check.due(m.getName() + " " + java.util.Arrays.toString(with) + " threw " + e.getCause(), named, true);
        }
    }
}
