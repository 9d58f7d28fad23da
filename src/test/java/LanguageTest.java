import java.lang.reflect.Array;
import java.lang.reflect.Field;
import java.lang.reflect.Method;
import java.lang.reflect.Modifier;
import java.nio.charset.StandardCharsets;
import java.nio.file.Files;
import java.nio.file.Path;
import java.util.ArrayDeque;
import java.util.ArrayList;
import java.util.Collections;
import java.util.Deque;
import java.util.IdentityHashMap;
import java.util.List;
import java.util.Set;
import java.util.TreeSet;
import java.util.regex.Matcher;
import java.util.regex.Pattern;

/** What the source and the compiled class show of the rules in LANGUAGE.md, and how much room a house takes. */
public final class LanguageTest {
    private static final Checks CHECKS = new Checks();
    private static final Path SOURCE = Path.of("src/main/java/Guesswright.java");
    private static final int MOST_LINES = 60;
    private static final int MOST_PARAMETERS = 7;
    private static final int MOST_CLASSES = 12;
    private static final int MOST_FIELDS = 20;

    public static void main(String[] arguments) throws Exception {
        String text = Files.readString(SOURCE, StandardCharsets.UTF_8);
        String code = withoutCommentsAndTexts(text);
        CHECKS.holds("signs are 1 to 127", text.chars().allMatch(sign -> sign >= 1 && sign <= 127));
        CHECKS.holds("no package line", !code.contains("package "));
        imports(code);
        barred(code);
        library(code);
        exceptions(code);
        List<Class<?>> classes = new ArrayList<>(List.of(Guesswright.class.getDeclaredClasses()));
        classes.add(Guesswright.class);
        CHECKS.holds("at most " + MOST_CLASSES + " classes", classes.size() <= MOST_CLASSES);
        for (Class<?> one : classes) {
            shape(one);
        }
        methodLengths(code);
        room();
        CHECKS.end();
    }

    /** Texts become empty ones, characters a zero, so that what they hold is not read as code. */
    private static String withoutCommentsAndTexts(String text) {
        return text.replaceAll("(?s)/\\*.*?\\*/", "").replaceAll("//[^\n]*", "")
                .replaceAll("\"(\\\\.|[^\"\\\\])*\"", "\"\"").replaceAll("'(\\\\.|[^'\\\\])'", "0");
    }

    private static Set<String> found(String code, String pattern) {
        Set<String> found = new TreeSet<>();
        Matcher matcher = Pattern.compile(pattern).matcher(code);
        while (matcher.find()) {
            found.add(matcher.group());
        }
        return found;
    }

    private static void imports(String code) {
        Set<String> imports = found(code, "import [^;]*;");
        imports.removeAll(Set.of("import java.util.Arrays;", "import java.util.NoSuchElementException;",
                "import java.util.ArrayList;", "import java.util.List;"));
        CHECKS.is("other imports", "[]", imports::toString);
    }

    private static void barred(String code) {
        String[] words = {"->", "::", "\\btry\\b", "\\bcatch\\b", "\\bfinally\\b", "\\bsynchronized\\b", "\\bassert\\b",
            "\\bvar\\b", "\\brecord\\b", "\\bstrictfp\\b", "\\bnative\\b", "\\bvolatile\\b", "\\btransient\\b",
            "\"\" *\\+", "\\+ *\"\"", "\\w+Exact\\b", "static \\{", "\\bextends \\w*Exception\\b",
            "\\bjava\\.[a-z]+\\.[a-z]+\\."};
        for (String word : words) {
            CHECKS.is("uses of " + word, "[]", () -> found(code, word).toString());
        }
    }

    private static void library(String code) {
        Set<String> used = found(code, "\\b(Integer|Long|Math|Arrays|System)\\.\\w+(\\(?)");
        used.removeAll(Set.of("Integer.bitCount(", "Long.bitCount(", "Math.min(", "Math.max(", "Math.floorMod(",
                "Arrays.fill(", "System.arraycopy("));
        CHECKS.is("other uses of the library", "[]", used::toString);
        Set<String> types =
                found(code, "\\b(Object|Runnable|Map|Set|HashMap|HashSet|Optional|Random|Scanner|Thread)\\b");
        CHECKS.is("other types", "[]", types::toString);
    }

    private static void exceptions(String code) {
        Set<String> thrown = found(code, "throw (?!new (IllegalStateException|IllegalArgumentException"
                + "|IndexOutOfBoundsException|UnsupportedOperationException|NoSuchElementException)\\(\"\"\\);)[^;]*;");
        CHECKS.is("other throws", "[]", thrown::toString);
    }

    private static void shape(Class<?> one) {
        int fields = 0;
        for (Field field : one.getDeclaredFields()) {
            boolean isStatic = Modifier.isStatic(field.getModifiers());
            CHECKS.holds(field + " is final, if static", !isStatic || Modifier.isFinal(field.getModifiers()));
            fields += isStatic ? 0 : 1;
        }
        CHECKS.holds(one.getName() + " has few fields", fields <= MOST_FIELDS);
        for (Method method : one.getDeclaredMethods()) {
            CHECKS.holds(method + " takes few parameters", method.getParameterCount() <= MOST_PARAMETERS);
        }
    }

    /** A method ends with the brace that stands as far in as it begins. */
    private static void methodLengths(String code) {
        String[] lines = code.split("\n");
        for (int start = 0; start < lines.length; start++) {
            String indent = lines[start].replaceAll("\\S.*", "");
            boolean isMethod = lines[start].matches(" {4}( {4})?[A-Za-z].*\\(.*") && !lines[start].endsWith(";");
            int end = start;
            while (isMethod && end + 1 < lines.length && !lines[end].equals(indent + "}")) {
                end++;
            }
            CHECKS.holds("line " + (start + 1) + " begins a short method", end - start < MOST_LINES);
        }
    }

    /** A run has room for 600,000 objects and 7.3 million fields and elements; a house keeps to a tenth of it. */
    private static void room() throws Exception {
        Guesswright house = new Guesswright();
        for (int game = 0; game < 8; game++) {
            house.codes(4, 6, true);
        }
        Set<Object> seen = Collections.newSetFromMap(new IdentityHashMap<>());
        Deque<Object> open = new ArrayDeque<>(List.of(house));
        long elements = 0;
        while (!open.isEmpty()) {
            Object one = open.pop();
            if (seen.add(one)) {
                elements += one.getClass().isArray() ? Array.getLength(one) : 0;
                reach(one, open);
            }
        }
        long counted = elements;
        CHECKS.holds("few objects: " + seen.size(), seen.size() < 60_000);
        CHECKS.holds("few elements: " + counted, counted < 730_000);
    }

    /** The class lets nobody in, so only its own fields are walked, which a test of the same module may open. */
    private static void reach(Object one, Deque<Object> open) throws Exception {
        if (one instanceof Object[] row) {
            for (Object element : row) {
                if (element != null) {
                    open.push(element);
                }
            }
            return;
        }
        for (Class<?> at = one.getClass(); at != null && at != Object.class && !at.isArray(); at = at.getSuperclass()) {
            for (Field field : at.getDeclaredFields()) {
                field.setAccessible(true);
                Object value = field.get(one);
                if (!field.getType().isPrimitive() && value != null) {
                    open.push(value);
                }
            }
        }
    }
}
