import java.lang.reflect.Array;
import java.lang.reflect.Field;
import java.lang.reflect.Method;
import java.lang.reflect.Modifier;
import java.nio.file.Files;
import java.nio.file.Path;
import java.util.Arrays;
import java.util.Collections;
import java.util.IdentityHashMap;
import java.util.Map;
import java.util.Set;
import java.util.TreeMap;
import java.util.TreeSet;
import java.util.regex.Matcher;
import java.util.regex.Pattern;

/** Rules of LANGUAGE.md that can be seen from the text and the class: the face, words that are not for it,
 *  lengths, how deep calls go, what is made, divisors. */
public final class RulesTests {
    private static final String FACE = "feed stream fault told move cork comes at kept known later best mixed stone most run forget fit "
        + "stoned dig fair drift where begin morning log clear judge seed keep goBack";
    private static final String[] NOT_FOR_IT = {"\\bthrow\\b", "\\btry\\b", "\\bcatch\\b", "\\bsynchronized\\b", "\\bassert\\b", "->", "::",
        "Exact\\b", "\\bInteger\\.M", "\\bLong\\.M", "\\bSystem\\.(?!arraycopy)", "\\bMath\\.random", "\\bpackage\\b", "\\bnative\\b",
        "\\bdouble\\b", "\\bfloat\\b", "\\bString\\.", "\\bObject\\b", "\\bhashCode\\b", "\\btoString\\b", "[^\\x00-\\x7f]"};

    private static int wrong = 0;

    private static void due(boolean holds, String what) {
        if (!holds) {
            wrong++;
            System.out.println(what);
        }
    }

    private static void face() {
        Set<String> want = new TreeSet<>(Set.of(FACE.split(" ")));
        Set<String> open = new TreeSet<>();
        Set<String> closed = new TreeSet<>();
        for (Method m : SlowerCork.class.getDeclaredMethods()) {
            (Modifier.isPublic(m.getModifiers()) ? open : closed).add(m.getName());
            due(Modifier.isPublic(m.getModifiers()) || Modifier.isPrivate(m.getModifiers()), m + " is neither public nor private");
            due(m.getParameterCount() <= 7, m + " takes too much");
        }
        due(open.equals(want), "the face is " + open);
        Class<?>[] inside = SlowerCork.class.getDeclaredClasses();
        due(inside.length < 12, "too many classes");
        for (Class<?> c : inside) {
            due(Modifier.isStatic(c.getModifiers()) && !Modifier.isPublic(c.getModifiers()), c + " is not static, or public");
            due(c.getDeclaredFields().length <= 20, c + " has too many fields");
            for (Method m : c.getDeclaredMethods()) {
                closed.add(m.getName());
            }
        }
        for (String name : closed) {
            due(!want.contains(name), name + " bears the name of a public method");
        }
        int constants = 0;
        for (Field f : SlowerCork.class.getDeclaredFields()) {
            constants += Modifier.isPublic(f.getModifiers()) ? 1 : 0;
            due(Modifier.isPublic(f.getModifiers()) || Modifier.isPrivate(f.getModifiers()), f + " is neither public nor private");
            due(!Modifier.isStatic(f.getModifiers()) || Modifier.isFinal(f.getModifiers()), f + " can change");
        }
        due(constants == 5, "constants: " + constants);
        due(Modifier.isFinal(SlowerCork.class.getModifiers()), "the class is not final");
    }

    private static void words(String source) {
        String code = source.replaceAll("(?s)/\\*.*?\\*/", "").replaceAll("//[^\n]*", "");
        for (String pattern : NOT_FOR_IT) {
            Matcher m = Pattern.compile(pattern).matcher(code);
            due(!m.find(), "not for it: " + pattern);
        }
        Matcher imports = Pattern.compile("import ([^;]*);").matcher(code);
        while (imports.find()) {
            due(imports.group(1).equals("java.util.Arrays"), "not for it: " + imports.group());
        }
    }

    /** Each method's text by its name; those of one name, in unlike classes, are joined. */
    private static Map<String, String> bodies(String source) {
        Map<String, String> bodies = new TreeMap<>();
        String[] lines = source.split("\n");
        int from = -1;
        for (int i = 0; i < lines.length; i++) {
            int indent = lines[i].length() - lines[i].stripLeading().length();
            boolean opens = lines[i].endsWith(") {") && (indent == 4 || indent == 8 && !lines[i].matches(" *(if|for|while|switch) .*"));
            if (opens) {
                from = i;
            }
            if (from >= 0 && lines[i].equals(lines[from].replaceAll("\\S.*", "") + "}")) {
                due(i - from < 60, "too long: " + lines[from].strip());
                String name = lines[from].replaceAll("^.*?(\\w+)\\(.*$", "$1");
                String text = String.join("\n", Arrays.copyOfRange(lines, from + 1, i));
                bodies.merge(name, text, (one, other) -> one + "\n" + other);
                from = -1;
            }
        }
        return bodies;
    }

    /** How many calls stand open at once below a method, itself counted; one that comes to itself again has no end. */
    private static int depth(String name, Map<String, String> bodies, Set<String> open) {
        if (!open.add(name)) {
            due(false, name + " calls itself");
            return 0;
        }
        int deepest = 0;
        Matcher calls = Pattern.compile("\\b(\\w+)\\(").matcher(bodies.get(name));
        while (calls.find()) {
            if (bodies.containsKey(calls.group(1))) {
                deepest = Math.max(deepest, depth(calls.group(1), bodies, open));
            }
        }
        open.remove(name);
        return deepest + 1;
    }

    private static void calls(Map<String, String> bodies) {
        for (String name : bodies.keySet()) {
            int depth = depth(name, bodies, new TreeSet<>());
            due(depth <= 8, name + " is " + depth + " calls deep");
        }
        due(depth("fair", bodies, new TreeSet<>()) > 4, "the calls of fair() are not seen");
    }

    /** Nothing is made but by constructors: the room of a run is the objects' alone. */
    private static void makings(Map<String, String> bodies) {
        for (String name : bodies.keySet()) {
            boolean constructor = Character.isUpperCase(name.charAt(0));
            due(constructor || !bodies.get(name).matches("(?s).*\\bnew\\b.*"), name + " makes something");
        }
    }

    /** A divisor is a number told in the text, a constant, or it was looked at on the same line. */
    private static void divisors(Map<String, String> bodies) {
        for (String name : bodies.keySet()) {
            for (String line : bodies.get(name).split("\n")) {
                Matcher m = Pattern.compile("[/%] ([\\w.\\[\\]]+|\\()").matcher(line);
                while (m.find()) {
                    String by = m.group(1);
                    boolean told = by.matches("[1-9]\\d*L?|(\\w+\\.)?[A-Z][A-Z_]*");
                    due(told || line.contains(by + " > 0 ?"), name + " divides by " + by);
                }
            }
        }
    }

    private static void count(Object x, Set<Object> seen, int[] room) throws Exception {
        if (x == null || !seen.add(x)) {
            return;
        }
        room[0]++;
        if (x.getClass().isArray()) {
            room[1] += Array.getLength(x);
            for (int i = 0; i < Array.getLength(x) && !x.getClass().getComponentType().isPrimitive(); i++) {
                count(Array.get(x, i), seen, room);
            }
            return;
        }
        for (Field f : x.getClass().getDeclaredFields()) {
            if (!Modifier.isStatic(f.getModifiers())) {
                room[1]++;
                f.setAccessible(true);
                if (!f.getType().isPrimitive()) {
                    count(f.get(x), seen, room);
                }
            }
        }
    }

    /** 600,000 objects and 7.3 million elements are for all objects of a run: a thousand of them have room. */
    private static void room() throws Exception {
        int[] room = new int[2];
        count(new SlowerCork(), Collections.newSetFromMap(new IdentityHashMap<>()), room);
        due(room[0] <= 600 && room[1] <= 7300, "an object has " + room[0] + " objects, " + room[1] + " elements");
    }

    public static void main(String[] args) throws Exception {
        String source = Files.readString(Path.of("src/main/java/SlowerCork.java"));
        Map<String, String> bodies = bodies(source);
        face();
        words(source);
        calls(bodies);
        makings(bodies);
        divisors(bodies);
        room();
        System.out.println(wrong == 0 ? "the rules are kept" : wrong + " rules are not kept");
        if (wrong != 0) {
            System.exit(1);
        }
    }
}
