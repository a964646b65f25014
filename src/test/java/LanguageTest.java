import java.io.IOException;
import java.lang.reflect.Field;
import java.lang.reflect.Method;
import java.lang.reflect.Modifier;
import java.nio.file.Files;
import java.nio.file.Path;
import java.util.Set;
import java.util.TreeSet;
import java.util.regex.Matcher;
import java.util.regex.Pattern;

/** The rules of ../shared/LANGUAGE.md that can be seen from the class and from the signs of its file. */
public final class LanguageTest {
    private static final Path FILE = Path.of("src/main/java/RunLedger.java");
    private static final String[] NEVER = {
        "\\bfinally\\b", "\\bsynchronized\\b", "\\bassert\\b", "\\bvar\\b", "\\bcatch\\b", "->", "::", "\\bstatic \\{", "Exact\\b",
        "\\bgetMessage\\b", "\\bSystem\\.(?!arraycopy\\b)", "\\bThread\\b", "\\bRandom\\b", "\\bObject\\b", "\\bException\\b",
        "\\bThrowable\\b", "\\b(?:equals|hashCode|toString)\\b", "\\bMath\\.(?!abs\\b|max\\b|min\\b|floorDiv\\b|floorMod\\b)"};

    private LanguageTest() {
    }

    public static void main(String[] args) throws IOException {
        String source = Files.readString(FILE);
        String code = source.replaceAll("(?s)/\\*.*?\\*/", "").replaceAll("//[^\n]*", "");
        Check.open("LANGUAGE.md");
        Check.same(" rule 4: imports", found(code, "\\bimport [^;]*;").toString(), "[import java.util.NoSuchElementException;]");
        Check.same(" the face: no package", found(code, "\\bpackage\\b").toString(), "[]");
        for (String never : NEVER) {
            Check.same(" never " + never, found(code, never).toString(), "[]");
        }
        TreeSet<String> names = new TreeSet<>();
        for (Method method : RunLedger.class.getMethods()) {
            if (method.getDeclaringClass() == RunLedger.class) {
                names.add(method.getName());
            }
        }
        Class<?>[] inside = RunLedger.class.getDeclaredClasses();
        Check.same(" rule 11: at most twelve classes", String.valueOf(inside.length + 1 <= 12), "true");
        looksAt(RunLedger.class, names);
        for (Class<?> one : inside) {
            Check.same(" rule 1: " + one, String.valueOf(Modifier.isStatic(one.getModifiers())), "true");
            Check.same(" rule 1: " + one, String.valueOf(Modifier.isPublic(one.getModifiers())), "false");
            looksAt(one, names);
        }
        Check.same(" rule 11: the longest method", String.valueOf(longestMethod(code) <= 60), "true");
        Check.tell();
    }

    private static void looksAt(Class<?> one, Set<String> names) {
        int fields = 0;
        for (Field field : one.getDeclaredFields()) {
            boolean fixed = Modifier.isStatic(field.getModifiers());
            fields += fixed ? 0 : 1;
            Check.same(" rule 5: " + field, String.valueOf(!fixed || Modifier.isFinal(field.getModifiers())), "true");
        }
        Check.same(" rule 11: at most twenty fields of " + one, String.valueOf(fields <= 20), "true");
        for (Method method : one.getDeclaredMethods()) {
            Check.same(" rule 11: " + method, String.valueOf(method.getParameterCount() <= 7), "true");
            boolean hidden = Modifier.isPrivate(method.getModifiers());
            Check.same(" rule 1: " + method, String.valueOf(hidden && names.contains(method.getName())), "false");
        }
    }

    private static TreeSet<String> found(String code, String sign) {
        TreeSet<String> all = new TreeSet<>();
        Matcher matcher = Pattern.compile(sign).matcher(code);
        while (matcher.find()) {
            all.add(matcher.group());
        }
        return all;
    }

    /** How many lines the longest method has: from a line that ends with ") {" or a throws to the brace below it. */
    private static int longestMethod(String code) {
        int longest = 0;
        Matcher matcher = Pattern.compile("(?m)^( {4}| {8})\\S[^\n;=]*\\)(?: throws [^\n]*)? \\{$").matcher(code);
        while (matcher.find()) {
            int end = code.indexOf("\n" + matcher.group(1) + "}", matcher.end());
            longest = Math.max(longest, (int) code.substring(matcher.start(), Math.max(matcher.start(), end)).lines().count() + 1);
        }
        return longest;
    }
}
