import java.lang.reflect.Field;
import java.lang.reflect.Method;
import java.lang.reflect.Modifier;
import java.nio.file.Files;
import java.nio.file.Path;
import java.util.HashMap;
import java.util.HashSet;
import java.util.Map;
import java.util.Set;
import java.util.TreeSet;
import java.util.regex.Matcher;
import java.util.regex.Pattern;

/** The rules of LANGUAGE.md that can be seen from the source and from the compiled class. */
public final class FalseParityRules {
    private static final Path SOURCE = Path.of("src/main/java/FalseParity.java");
    private static final String[] OUTSIDE = {
        "\\bthrow\\b", "\\bthrows\\b", "\\btry\\b", "\\bcatch\\b", "\\bsynchronized\\b", "\\bassert\\b", "\\bimport\\b",
        "\\bpackage\\b", "->", "::", "\\bstatic\\s*\\{", "\\w+Exact\\b", "\\bThread\\b", "\\bRandom\\b", "\\bObject\\b",
        "System\\.(?!arraycopy\\b)", "\\bhashCode\\b", "\\btoString\\b", "\\bvolatile\\b", "\\bnative\\b", "\\bprotected\\b",
        "while\\s*\\(\\s*true\\b", "for\\s*\\(\\s*;"};
    /** Only what the class uses now; rule 4 allows more, and what it allows may be added here when it is used. */
    private static final Set<String> LIBRARY = Set.of("System.arraycopy", "Math.min", "Math.max", "Integer.bitCount");
    private static int wrong = 0;

    private static void check(int rule, boolean kept, String what) {
        if (!kept) {
            wrong++;
            System.out.println("rule " + rule + ": " + what);
        }
    }

    private static void words(String code) {
        for (String word : OUTSIDE) {
            Matcher m = Pattern.compile(word).matcher(code);
            check(4, !m.find(), "the source has " + word);
        }
        check(3, code.chars().allMatch(c -> c < 128), "a sign above 127");
    }

    private static void methodsAreShort(String source) {
        String[] lines = source.split("\n", -1);
        int begun = -1;
        for (int i = 0; i < lines.length; i++) {
            if (lines[i].matches(" {4}( {4})?[A-Za-z][^=;]*\\(.*\\) \\{")) {
                begun = i;
            } else if (begun >= 0 && lines[i].matches(" {4}( {4})?\\}")) {
                check(11, i - begun < 60, "a method of " + (i - begun) + " lines: " + lines[begun].trim());
                begun = -1;
            }
        }
    }

    /** Only own classes and the listed functions of the library are named. */
    private static void library(String code) {
        Set<String> own = new HashSet<>(Set.of("FalseParity"));
        for (Class<?> c : FalseParity.class.getDeclaredClasses()) {
            own.add(c.getSimpleName());
        }
        Matcher m = Pattern.compile("(?<![\\w.])([A-Z]\\w*[a-z]\\w*)(\\.\\w+)?").matcher(code);
        while (m.find()) {
            check(4, own.contains(m.group(1)) || LIBRARY.contains(m.group()), "the source names " + m.group());
        }
    }

    /**
     * Which names each method calls. Methods of the same name are taken as one, so a chain here may be
     * longer than a true one, never shorter.
     */
    private static Map<String, Set<String>> calls(String code) {
        Map<String, StringBuilder> bodies = new HashMap<>();
        Matcher head = Pattern.compile(" {4}(?: {4})?(?:[a-z]+ )*?(?:[\\w\\[\\]]+ )?(\\w+)\\([^=;]*\\) \\{").matcher("");
        String name = null;
        for (String line : code.split("\n", -1)) {
            if (head.reset(line).matches()) {
                name = head.group(1);
                bodies.putIfAbsent(name, new StringBuilder());
            } else if (line.matches(" {4}( {4})?\\}")) {
                name = null;
            } else if (name != null) {
                bodies.get(name).append(line).append('\n');
            }
        }
        Map<String, Set<String>> calls = new HashMap<>();
        bodies.forEach((from, body) -> {
            Set<String> to = new TreeSet<>();
            Matcher m = Pattern.compile("\\b(\\w+)\\(").matcher(body);
            while (m.find()) {
                if (bodies.containsKey(m.group(1))) {
                    to.add(m.group(1));
                }
            }
            calls.put(from, to);
        });
        return calls;
    }

    /** How many calls stand open at once below and with this one; a row that comes back to itself is told. */
    private static int depth(Map<String, Set<String>> calls, String name, Set<String> open) {
        if (!open.add(name)) {
            check(8, false, "recursion by " + name);
            return 0;
        }
        int deepest = 0;
        for (String to : calls.get(name)) {
            deepest = Math.max(deepest, depth(calls, to, open));
        }
        open.remove(name);
        return deepest + 1;
    }

    private static void callsAreShallow(String code) {
        Map<String, Set<String>> calls = calls(code);
        for (Class<?> c : FalseParity.class.getDeclaredClasses()) {
            for (Method m : c.getDeclaredMethods()) {
                check(8, calls.containsKey(m.getName()), "a method that was not looked at: " + m);
            }
        }
        for (Method m : FalseParity.class.getDeclaredMethods()) {
            check(8, calls.containsKey(m.getName()), "a method that was not looked at: " + m);
        }
        for (String name : calls.keySet()) {
            int deep = depth(calls, name, new HashSet<>());
            check(11, deep <= 8, deep + " calls deep from " + name);
        }
    }

    private static void members(Class<?> type, Set<String> face, boolean inside) {
        int fields = 0;
        for (Field f : type.getDeclaredFields()) {
            boolean isStatic = Modifier.isStatic(f.getModifiers());
            check(5, !isStatic || Modifier.isFinal(f.getModifiers()), "a static field that is not final: " + f);
            fields += isStatic ? 0 : 1;
        }
        check(11, fields <= 20, fields + " fields in " + type);
        for (Method m : type.getDeclaredMethods()) {
            boolean open = Modifier.isPublic(m.getModifiers());
            check(1, inside || open || Modifier.isPrivate(m.getModifiers()), "not of the face: " + m);
            check(1, open && !inside || !face.contains(m.getName()), "a name of the face: " + m);
            check(11, m.getParameterCount() <= 7, "too many parameters: " + m);
        }
    }

    private static void classes() {
        Set<String> face = new HashSet<>();
        for (Method m : FalseParity.class.getDeclaredMethods()) {
            if (Modifier.isPublic(m.getModifiers())) {
                face.add(m.getName());
            }
        }
        members(FalseParity.class, face, false);
        Class<?>[] inside = FalseParity.class.getDeclaredClasses();
        check(11, inside.length <= 11, inside.length + " classes inside");
        for (Class<?> c : inside) {
            int is = c.getModifiers();
            check(1, Modifier.isStatic(is) && !Modifier.isPublic(is) && !Modifier.isProtected(is), "not private, static: " + c);
            members(c, face, true);
        }
    }

    public static void main(String[] args) throws Exception {
        String source = Files.readString(SOURCE);
        String code = source.replaceAll("(?s)/\\*.*?\\*/", " ").replaceAll("//[^\n]*", " ");
        words(code);
        library(code);
        methodsAreShort(source);
        callsAreShallow(code);
        classes();
        System.out.println(wrong == 0 ? "all rules are kept" : wrong + " rules are not kept");
        if (wrong != 0) {
            System.exit(1);
        }
    }
}
