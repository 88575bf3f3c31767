import java.lang.reflect.Field;
import java.lang.reflect.Method;
import java.lang.reflect.Modifier;
import java.nio.file.Files;
import java.nio.file.Path;
import java.util.Set;
import java.util.TreeSet;
import java.util.regex.Matcher;
import java.util.regex.Pattern;

/** Rules of LANGUAGE.md that can be seen from the text and the class: the face, words that are not for it, lengths. */
public final class RulesTests {
    private static final String FACE = "feed stream fault told move cork comes at kept known later best mixed stone most run forget fit "
        + "stoned dig fair drift where begin morning log clear judge seed keep goBack";
    private static final String[] NOT_FOR_IT = {"\\bthrow\\b", "\\btry\\b", "\\bcatch\\b", "\\bsynchronized\\b", "\\bassert\\b", "->", "::",
        "Exact\\b", "\\bInteger\\.M", "\\bLong\\.M", "\\bSystem\\.(?!arraycopy)", "\\bMath\\.random", "\\bpackage\\b", "\\bnative\\b",
        "\\bdouble\\b", "\\bfloat\\b", "\\bString\\.", "\\bObject\\b", "\\bhashCode\\b", "\\btoString\\b", "[^\\x00-\\x7f]"};

    private static int wrong = 0;

    private static void due(boolean holds, String what) {
        if (!holds) {
            wrong++;
            System.out.println(what);
        }
    }

    private static void face() {
        Set<String> want = new TreeSet<>(Set.of(FACE.split(" ")));
        Set<String> open = new TreeSet<>();
        Set<String> closed = new TreeSet<>();
        for (Method m : SlowerCork.class.getDeclaredMethods()) {
            (Modifier.isPublic(m.getModifiers()) ? open : closed).add(m.getName());
            due(Modifier.isPublic(m.getModifiers()) || Modifier.isPrivate(m.getModifiers()), m + " is neither public nor private");
            due(m.getParameterCount() <= 7, m + " takes too much");
        }
        due(open.equals(want), "the face is " + open);
        Class<?>[] inside = SlowerCork.class.getDeclaredClasses();
        due(inside.length < 12, "too many classes");
        for (Class<?> c : inside) {
            due(Modifier.isStatic(c.getModifiers()) && !Modifier.isPublic(c.getModifiers()), c + " is not static, or public");
            due(c.getDeclaredFields().length <= 20, c + " has too many fields");
            for (Method m : c.getDeclaredMethods()) {
                closed.add(m.getName());
            }
        }
        for (String name : closed) {
            due(!want.contains(name), name + " bears the name of a public method");
        }
        int constants = 0;
        for (Field f : SlowerCork.class.getDeclaredFields()) {
            constants += Modifier.isPublic(f.getModifiers()) ? 1 : 0;
            due(Modifier.isPublic(f.getModifiers()) || Modifier.isPrivate(f.getModifiers()), f + " is neither public nor private");
            due(!Modifier.isStatic(f.getModifiers()) || Modifier.isFinal(f.getModifiers()), f + " can change");
        }
        due(constants == 5, "constants: " + constants);
        due(Modifier.isFinal(SlowerCork.class.getModifiers()), "the class is not final");
    }

    private static void words(String source) {
        String code = source.replaceAll("(?s)/\\*.*?\\*/", "").replaceAll("//[^\n]*", "");
        for (String pattern : NOT_FOR_IT) {
            Matcher m = Pattern.compile(pattern).matcher(code);
            due(!m.find(), "not for it: " + pattern);
        }
        Matcher imports = Pattern.compile("import ([^;]*);").matcher(code);
        while (imports.find()) {
            due(imports.group(1).equals("java.util.Arrays"), "not for it: " + imports.group());
        }
    }

    private static void lengths(String source) {
        String[] lines = source.split("\n");
        int from = -1;
        for (int i = 0; i < lines.length; i++) {
            int indent = lines[i].length() - lines[i].stripLeading().length();
            boolean opens = lines[i].endsWith(") {") && (indent == 4 || indent == 8 && !lines[i].matches(" *(if|for|while|switch) .*"));
            if (opens) {
                from = i;
            }
            if (from >= 0 && lines[i].equals(lines[from].replaceAll("\\S.*", "") + "}")) {
                due(i - from < 60, "too long: " + lines[from].strip());
                from = -1;
            }
        }
    }

    public static void main(String[] args) throws Exception {
        String source = Files.readString(Path.of("src/main/java/SlowerCork.java"));
        face();
        words(source);
        lengths(source);
        System.out.println(wrong == 0 ? "the rules are kept" : wrong + " rules are not kept");
        if (wrong != 0) {
            System.exit(1);
        }
    }
}
