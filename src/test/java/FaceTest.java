import java.lang.reflect.Constructor;
import java.lang.reflect.Field;
import java.lang.reflect.Method;
import java.lang.reflect.Modifier;
import java.nio.file.Files;
import java.nio.file.Path;
import java.util.ArrayList;
import java.util.List;
import java.util.TreeSet;

/** The public face stands word for word as the document gives it, and nothing else can be seen. */
public final class FaceTest {
    private static final Checks CHECKS = new Checks();

    public static void main(String[] arguments) throws Exception {
        TreeSet<String> due = new TreeSet<>(dueMethods(Path.of(arguments[0])));
        TreeSet<String> found = new TreeSet<>();
        for (Method method : Guesswright.class.getDeclaredMethods()) {
            if (!Modifier.isPrivate(method.getModifiers())) {
                found.add(told(method));
            }
        }
        CHECKS.is("the number of methods in the document", 39 - 1, due::size);
        CHECKS.is("the face", due.toString(), found::toString);
        int modifiers = Guesswright.class.getModifiers();
        CHECKS.holds("the class is public and final", Modifier.isPublic(modifiers) && Modifier.isFinal(modifiers));
        Constructor<?>[] constructors = Guesswright.class.getDeclaredConstructors();
        CHECKS.holds("one public constructor without arguments", constructors.length == 1
                && Modifier.isPublic(constructors[0].getModifiers()) && constructors[0].getParameterCount() == 0);
        for (Field field : Guesswright.class.getDeclaredFields()) {
            CHECKS.holds(field.getName() + " is private", Modifier.isPrivate(field.getModifiers()));
        }
        for (Method method : Guesswright.class.getDeclaredMethods()) {
            if (Modifier.isPrivate(method.getModifiers())) {
                CHECKS.holds(method.getName() + " bears no public name", !isPublicName(method.getName()));
            }
        }
        for (Class<?> inside : Guesswright.class.getDeclaredClasses()) {
            CHECKS.holds(inside.getName() + " is static and not public",
                    Modifier.isStatic(inside.getModifiers()) && !Modifier.isPublic(inside.getModifiers()));
        }
        CHECKS.end();
    }

    private static boolean isPublicName(String name) {
        for (Method method : Guesswright.class.getMethods()) {
            if (method.getDeclaringClass() == Guesswright.class && method.getName().equals(name)) {
                return true;
            }
        }
        return false;
    }

    /** The lines of the document's Java block, brought to types alone. */
    private static List<String> dueMethods(Path document) throws Exception {
        List<String> methods = new ArrayList<>();
        for (String line : Files.readAllLines(document)) {
            if (line.startsWith("    public ") && !line.contains("Guesswright()")) {
                String word = line.trim().substring("public ".length()).replace(";", "");
                String types = word.substring(word.indexOf('(') + 1, word.indexOf(')')).replaceAll("(\\w+) \\w+", "$1");
                String behind = word.substring(word.indexOf(')') + 1).replace(" throws ", "");
                methods.add(word.substring(0, word.indexOf('(')) + "(" + types + ") " + behind);
            }
        }
        return methods;
    }

    private static String told(Method method) {
        List<String> types = new ArrayList<>();
        for (Class<?> type : method.getParameterTypes()) {
            types.add(type.getSimpleName());
        }
        List<String> thrown = new ArrayList<>();
        for (Class<?> type : method.getExceptionTypes()) {
            thrown.add(type.getSimpleName());
        }
        return method.getReturnType().getSimpleName() + " " + method.getName() + "(" + String.join(", ", types) + ") "
                + String.join(", ", thrown);
    }
}
