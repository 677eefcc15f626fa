import java.lang.reflect.Field;
import java.lang.reflect.Method;
import java.lang.reflect.Modifier;
import java.nio.file.Files;
import java.nio.file.Path;
import java.util.HashSet;
import java.util.Set;
import java.util.regex.Matcher;
import java.util.regex.Pattern;

/** The rules of LANGUAGE.md that can be seen from the source and from the compiled class. */
public final class FalseParityRules {
    private static final Path SOURCE = Path.of("src/main/java/FalseParity.java");
    private static final String[] OUTSIDE = {
        "\\bthrow\\b", "\\bthrows\\b", "\\btry\\b", "\\bcatch\\b", "\\bsynchronized\\b", "\\bassert\\b", "\\bimport\\b",
        "\\bpackage\\b", "->", "::", "\\bstatic\\s*\\{", "\\w+Exact\\b", "\\bThread\\b", "\\bRandom\\b", "\\bObject\\b",
        "System\\.(?!arraycopy\\b)", "\\bhashCode\\b", "\\btoString\\b", "\\bvolatile\\b", "\\bnative\\b", "\\bprotected\\b",
        "while\\s*\\(\\s*true\\b", "for\\s*\\(\\s*;"};
    private static int wrong = 0;

    private static void check(int rule, boolean kept, String what) {
        if (!kept) {
            wrong++;
            System.out.println("rule " + rule + ": " + what);
        }
    }

    private static void words(String code) {
        for (String word : OUTSIDE) {
            Matcher m = Pattern.compile(word).matcher(code);
            check(4, !m.find(), "the source has " + word);
        }
        check(3, code.chars().allMatch(c -> c < 128), "a sign above 127");
    }

    private static void methodsAreShort(String source) {
        String[] lines = source.split("\n", -1);
        int begun = -1;
        for (int i = 0; i < lines.length; i++) {
            if (lines[i].matches(" {4}( {4})?[A-Za-z][^=;]*\\(.*\\) \\{")) {
                begun = i;
            } else if (begun >= 0 && lines[i].matches(" {4}( {4})?\\}")) {
                check(11, i - begun < 60, "a method of " + (i - begun) + " lines: " + lines[begun].trim());
                begun = -1;
            }
        }
    }

    private static void members(Class<?> type, Set<String> face, boolean inside) {
        int fields = 0;
        for (Field f : type.getDeclaredFields()) {
            boolean isStatic = Modifier.isStatic(f.getModifiers());
            check(5, !isStatic || Modifier.isFinal(f.getModifiers()), "a static field that is not final: " + f);
            fields += isStatic ? 0 : 1;
        }
        check(11, fields <= 20, fields + " fields in " + type);
        for (Method m : type.getDeclaredMethods()) {
            boolean open = Modifier.isPublic(m.getModifiers());
            check(1, inside || open || Modifier.isPrivate(m.getModifiers()), "not of the face: " + m);
            check(1, open && !inside || !face.contains(m.getName()), "a name of the face: " + m);
            check(11, m.getParameterCount() <= 7, "too many parameters: " + m);
        }
    }

    private static void classes() {
        Set<String> face = new HashSet<>();
        for (Method m : FalseParity.class.getDeclaredMethods()) {
            if (Modifier.isPublic(m.getModifiers())) {
                face.add(m.getName());
            }
        }
        members(FalseParity.class, face, false);
        Class<?>[] inside = FalseParity.class.getDeclaredClasses();
        check(11, inside.length <= 11, inside.length + " classes inside");
        for (Class<?> c : inside) {
            int is = c.getModifiers();
            check(1, Modifier.isStatic(is) && !Modifier.isPublic(is) && !Modifier.isProtected(is), "not private, static: " + c);
            members(c, face, true);
        }
    }

    public static void main(String[] args) throws Exception {
        String source = Files.readString(SOURCE);
        String code = source.replaceAll("(?s)/\\*.*?\\*/", " ").replaceAll("//[^\n]*", " ");
        words(code);
        methodsAreShort(source);
        classes();
        System.out.println(wrong == 0 ? "all rules are kept" : wrong + " rules are not kept");
        if (wrong != 0) {
            System.exit(1);
        }
    }
}
