import java.lang.reflect.InvocationTargetException;
import java.lang.reflect.Method;
import java.lang.reflect.Modifier;
import java.util.ArrayList;
import java.util.Comparator;
import java.util.List;
import java.util.Random;

/** Chance calls (the same each time) with numbers far out of their bounds, in all kinds of streams: none may throw. */
public final class NeverThrowsTests {
    private static final int[] NUMBERS = {0, 1, 2, 3, 4, 5, 6, 7, 8, 10, 11, 12, 13, 20, 30, 31, 40, 99, 100, 199, 200, 201, 1000, 1000000,
        -1, -2, Integer.MAX_VALUE, Integer.MIN_VALUE};

    private static List<Method> face() {
        List<Method> face = new ArrayList<>();
        for (Method m : SlowerCork.class.getDeclaredMethods()) {
            if (Modifier.isPublic(m.getModifiers())) {
                face.add(m);
            }
        }
        face.sort(Comparator.comparing(Method::getName));
        return face;
    }

    private static String[] texts() {
        StringBuilder twelve = new StringBuilder();
        for (int p = 0; p < 11; p++) {
            twelve.append("place to ").append((p + 1) % 11).append(" 29 to ").append((p + 2) % 11).append(" 29 to ").append(p);
            twelve.append(" 41 to 11 1;");
        }
        return new String[] {"", "bridge;", "place to 0 100;bridge;", "place to 1 99 to 0 1;bridge;", "place to 9", twelve + "bridge;"};
    }

    private static void tell(SlowerCork x, String text) {
        for (int i = 0; i < text.length(); i++) {
            x.feed(1, text.charAt(i));
        }
        x.stream();
    }

    private static Object argument(Class<?> type, Random r) {
        if (type == boolean.class) {
            return r.nextBoolean();
        }
        if (type == long.class) {
            return r.nextLong();
        }
        return NUMBERS[r.nextInt(r.nextInt(3) > 0 ? 6 : NUMBERS.length)];
    }

    public static void main(String[] args) throws IllegalAccessException {
        List<Method> face = face();
        String[] texts = texts();
        Random r = new Random(5);
        int wrong = 0;
        for (int run = 0; run < 300; run++) {
            SlowerCork x = new SlowerCork();
            for (int i = 0; i < 400; i++) {
                if (i % 100 == 0 && r.nextInt(5) > 0) {
                    tell(x, texts[r.nextInt(texts.length)]);
                }
                Method m = face.get(r.nextInt(face.size()));
                Object[] with = new Object[m.getParameterCount()];
                for (int k = 0; k < with.length; k++) {
                    with[k] = argument(m.getParameterTypes()[k], r);
                }
                boolean wipes = m.getName().equals("stream") && r.nextInt(9) > 0;
                try {
                    if (!wipes) {
                        m.invoke(x, with);
                    }
                } catch (InvocationTargetException e) {
                    wrong++;
                    System.out.println("run " + run + ": " + m.getName() + java.util.Arrays.toString(with) + " threw " + e.getCause());
                }
            }
        }
        System.out.println(wrong == 0 ? "no call threw" : wrong + " calls threw");
        if (wrong != 0) {
            System.exit(1);
        }
    }
}
