import java.io.IOException;
import java.lang.reflect.Constructor;
import java.lang.reflect.Field;
import java.lang.reflect.Method;
import java.lang.reflect.Modifier;
import java.nio.file.Files;
import java.nio.file.Path;
import java.util.ArrayList;
import java.util.Arrays;
import java.util.List;
import java.util.Set;
import java.util.TreeSet;

/** The face of the document, and what ../shared/LANGUAGE.md says that can be seen from outside. */
public final class LanguageTests {
    private static final Checks CHECKS = new Checks("LanguageTests");
    private static final int MOST_CLASSES = 12;
    private static final int MOST_FIELDS = 20;
    private static final int MOST_PARAMETERS = 7;
    private static final int MOST_LINES = 60;
    private static final String[] FACE = {
        "int sample(int) throws IllegalArgumentException, IllegalStateException",
        "int period() throws NoSuchElementException",
        "int frame(int, int, int) throws IllegalArgumentException, IllegalStateException",
        "int hush()",
        "int move(int) throws IllegalArgumentException, UnsupportedOperationException",
        "int notes()",
        "int startOf(int) throws IndexOutOfBoundsException",
        "int lengthOf(int) throws IndexOutOfBoundsException",
        "int pitchOf(int) throws IndexOutOfBoundsException",
        "int certaintyOf(int) throws IndexOutOfBoundsException",
        "int song() throws IllegalStateException",
        "int add(int, int, int) throws IndexOutOfBoundsException, IllegalArgumentException, "
                + "IllegalStateException",
        "int sizeOf(int) throws IndexOutOfBoundsException",
        "char tune(char) throws IllegalArgumentException",
        "int tuneStep(int, int) throws IllegalArgumentException",
        "int centsOf(int) throws IllegalArgumentException",
        "int cost(int) throws IndexOutOfBoundsException, UnsupportedOperationException",
        "int laidOn(int, int) throws IndexOutOfBoundsException, UnsupportedOperationException",
        "int keyOf(int, int) throws IndexOutOfBoundsException, UnsupportedOperationException, "
                + "NoSuchElementException",
        "int off(int, int) throws IndexOutOfBoundsException, UnsupportedOperationException, "
                + "NoSuchElementException",
        "char kindOf(int, int) throws IndexOutOfBoundsException, UnsupportedOperationException",
        "int drift(int) throws IndexOutOfBoundsException, UnsupportedOperationException",
        "int lost(int) throws IndexOutOfBoundsException, UnsupportedOperationException",
        "int sung() throws NoSuchElementException",
        "int lean(int, int) throws IndexOutOfBoundsException, UnsupportedOperationException, "
                + "NoSuchElementException",
        "int range(int, int) throws IllegalArgumentException",
        "int tired()",
        "int rest(int) throws IllegalArgumentException",
        "int learn(int) throws IndexOutOfBoundsException, UnsupportedOperationException, "
                + "IllegalStateException",
        "int mastery(int) throws IllegalArgumentException",
        "int next() throws NoSuchElementException",
        "int seat(int, int) throws IllegalArgumentException, IllegalStateException",
        "int choir(int) throws IllegalArgumentException, UnsupportedOperationException",
        "int offOf(int) throws IndexOutOfBoundsException",
        "int swap(int, int) throws IndexOutOfBoundsException",
        "int blend()",
        "int distance(int, int) throws IndexOutOfBoundsException",
        "int parent(int) throws IndexOutOfBoundsException, NoSuchElementException",
        "float share(int) throws IndexOutOfBoundsException, UnsupportedOperationException",
        "double meanPitch() throws ArithmeticException",
        "long checksum()",
        "boolean isTrue()",
    };
    private static final String[] BANNED = {
        "finally", "synchronized", "assert", "instanceof", "->", "::", "import java.util.*",
        "catch", "System.out", "System.exit", "nanoTime", "Random", "Thread", "java.io", "Exact(",
        "double[]", "package ", "static {", "protected", "while", "toString", "hashCode", "@",
    };

    public static void main(String[] args) throws IOException {
        face();
        for (Class<?> one : classes()) {
            shapeOf(one);
        }
        CHECKS.holds("few classes", classes().size() <= MOST_CLASSES);
        source();
        CHECKS.end();
    }

    private static List<Class<?>> classes() {
        List<Class<?>> all = new ArrayList<>();
        all.add(Tuneward.class);
        all.addAll(Arrays.asList(Tuneward.class.getDeclaredClasses()));
        return all;
    }

    private static void face() {
        Set<String> got = new TreeSet<>();
        Set<String> names = new TreeSet<>();
        for (Method method : Tuneward.class.getDeclaredMethods()) {
            if (!Modifier.isPrivate(method.getModifiers())) {
                got.add(told(method));
                names.add(method.getName());
                CHECKS.same(method.getName(), method.getModifiers(), Modifier.PUBLIC);
            }
        }
        CHECKS.same("the face", got, new TreeSet<>(Arrays.asList(FACE)));
        for (Method method : Tuneward.class.getDeclaredMethods()) {
            CHECKS.holds("a private name " + method.getName(),
                    Modifier.isPublic(method.getModifiers()) || !names.contains(method.getName()));
        }
        for (Field field : Tuneward.class.getDeclaredFields()) {
            CHECKS.holds("private " + field.getName(), Modifier.isPrivate(field.getModifiers()));
        }
        Constructor<?>[] made = Tuneward.class.getDeclaredConstructors();
        CHECKS.same("one constructor", made.length, 1);
        CHECKS.same("a public constructor", made[0].getModifiers(), Modifier.PUBLIC);
        CHECKS.same("without parameters", made[0].getParameterCount(), 0);
        CHECKS.same("the class", Tuneward.class.getModifiers(), Modifier.PUBLIC | Modifier.FINAL);
    }

    private static String told(Method method) {
        StringBuilder text = new StringBuilder(method.getReturnType().getName());
        text.append(' ').append(method.getName()).append('(');
        appendNames(text, method.getParameterTypes());
        text.append(')');
        if (method.getExceptionTypes().length > 0) {
            appendNames(text.append(" throws "), method.getExceptionTypes());
        }
        return text.toString();
    }

    private static void appendNames(StringBuilder text, Class<?>[] types) {
        for (int i = 0; i < types.length; i++) {
            text.append(i > 0 ? ", " : "").append(types[i].getSimpleName());
        }
    }

    private static void shapeOf(Class<?> one) {
        int fields = 0;
        for (Field field : one.getDeclaredFields()) {
            if (Modifier.isStatic(field.getModifiers())) {
                CHECKS.holds("final " + field, Modifier.isFinal(field.getModifiers()));
            } else {
                fields++;
            }
        }
        CHECKS.holds("few fields in " + one, fields <= MOST_FIELDS);
        for (Method method : one.getDeclaredMethods()) {
            CHECKS.holds("few parameters " + method, method.getParameterCount() <= MOST_PARAMETERS);
        }
        if (one != Tuneward.class) {
            CHECKS.holds("static " + one, Modifier.isStatic(one.getModifiers()));
            CHECKS.holds("not public " + one, !Modifier.isPublic(one.getModifiers()));
        }
    }

    private static void source() throws IOException {
        List<String> lines = Files.readAllLines(Path.of("src/main/java/Tuneward.java"));
        String inMethod = null;
        int begun = 0;
        for (int at = 0; at < lines.size(); at++) {
            String line = lines.get(at);
            String trimmed = line.trim();
            boolean comment = trimmed.startsWith("//") || trimmed.startsWith("*")
                    || trimmed.startsWith("/*");
            for (String word : BANNED) {
                CHECKS.holds("line " + (at + 1) + " has " + word, comment || !line.contains(word));
            }
            for (char sign : line.toCharArray()) {
                CHECKS.holds("line " + (at + 1) + " has a sign beyond 126", sign < 127);
            }
            if (line.matches(" {4}( {4})?[a-z].*\\(.*[{,]?$") && !trimmed.endsWith(";")) {
                inMethod = trimmed;
                begun = at;
            }
            if (line.matches(" {4}( {4})?}") && inMethod != null) {
                CHECKS.holds("short: " + inMethod, at - begun <= MOST_LINES);
                inMethod = null;
            }
        }
    }
}
