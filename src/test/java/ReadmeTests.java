import java.io.File;
import java.lang.reflect.Method;
import java.lang.reflect.Modifier;
import java.nio.file.Files;
import java.nio.file.Path;
import java.util.Set;
import java.util.TreeSet;
import java.util.regex.Matcher;
import java.util.regex.Pattern;

/** README.md is right: its calls, one behind the other, answer what it says; every call and every test is named in it. */
public final class ReadmeTests {
    private static final Pattern CALL = Pattern.compile("(?:x\\.(\\w+)\\((.*)\\)|read\\(x, \"(.*)\"\\)); +// (-?\\d+|[A-Z]+)([:;].*)?");

    private static int wrong = 0;
    private static SlowerCork x = new SlowerCork();
    private static final Set<String> called = new TreeSet<>();

    private static void due(boolean holds, String what) {
        if (!holds) {
            wrong++;
            System.out.println(what);
        }
    }

    private static long number(String word) throws Exception {
        return word.matches("[A-Z]+") ? SlowerCork.class.getField(word).getInt(null) : Long.parseLong(word);
    }

    private static int read(String text) {
        for (int i = 0; i < text.length(); i++) {
            x.feed(1, text.charAt(i));
        }
        called.add("feed");
        called.add("stream");
        return x.stream();
    }

    private static Object argument(Class<?> type, String word) throws Exception {
        if (type == boolean.class) {
            return Boolean.valueOf(word);
        }
        return type == long.class ? (Object) Long.valueOf(number(word)) : (Object) Integer.valueOf((int) number(word));
    }

    private static int call(String name, String list) throws Exception {
        String[] words = list.isEmpty() ? new String[0] : list.split(", ");
        for (Method m : SlowerCork.class.getMethods()) {
            if (m.getName().equals(name) && m.getParameterCount() == words.length) {
                Object[] arguments = new Object[words.length];
                for (int i = 0; i < words.length; i++) {
                    arguments[i] = argument(m.getParameterTypes()[i], words[i]);
                }
                called.add(name);
                return (Integer) m.invoke(x, arguments);
            }
        }
        throw new IllegalArgumentException("no such call: " + name + "(" + list + ")");
    }

    private static void example(String line) throws Exception {
        Matcher m = CALL.matcher(line);
        if (!m.matches()) {
            due(!line.startsWith("x.") && !line.startsWith("read("), "no answer is told: " + line);
            return;
        }
        int got = m.group(3) != null ? read(m.group(3)) : call(m.group(1), m.group(2));
        due(got == number(m.group(4)), line + "   answered " + got);
    }

    public static void main(String[] args) throws Exception {
        String page = Files.readString(Path.of("README.md"));
        boolean code = false;
        for (String line : page.split("\n")) {
            if (line.startsWith("```")) {
                code = line.equals("```java");
            } else if (code) {
                example(line);
            }
        }
        for (Method m : SlowerCork.class.getDeclaredMethods()) {
            boolean open = Modifier.isPublic(m.getModifiers());
            due(!open || called.contains(m.getName()), "README.md has no example of " + m.getName());
        }
        File[] tests = new File("src/test/java").listFiles();
        for (File test : tests == null ? new File[0] : tests) {
            due(page.contains("`src/test/java/" + test.getName() + "`"), "README.md does not name " + test.getName());
        }
        System.out.println(wrong == 0 ? "README.md is right" : wrong + " things in README.md are not right");
        if (wrong != 0) {
            System.exit(1);
        }
    }
}
