import java.io.IOException;
import java.lang.reflect.Constructor;
import java.lang.reflect.Field;
import java.lang.reflect.Method;
import java.lang.reflect.Modifier;
import java.nio.file.Files;
import java.nio.file.Path;
import java.util.ArrayList;
import java.util.Arrays;
import java.util.List;
import java.util.Set;
import java.util.TreeSet;
import java.util.regex.Matcher;
import java.util.regex.Pattern;

/** The face of the document, and what ../shared/LANGUAGE.md says that can be seen from outside. */
public final class LanguageTests {
    private static final Checks CHECKS = new Checks("LanguageTests");
    private static final int MOST_CLASSES = 12;
    private static final int MOST_FIELDS = 20;
    private static final int MOST_PARAMETERS = 7;
    private static final int MOST_LINES = 60;
    private static final String[] FACE = {
        "int sample(int) throws IllegalArgumentException, IllegalStateException",
        "int period() throws NoSuchElementException",
        "int frame(int, int, int) throws IllegalArgumentException, IllegalStateException",
        "int hush()",
        "int move(int) throws IllegalArgumentException, UnsupportedOperationException",
        "int notes()",
        "int startOf(int) throws IndexOutOfBoundsException",
        "int lengthOf(int) throws IndexOutOfBoundsException",
        "int pitchOf(int) throws IndexOutOfBoundsException",
        "int certaintyOf(int) throws IndexOutOfBoundsException",
        "int song() throws IllegalStateException",
        "int add(int, int, int) throws IndexOutOfBoundsException, IllegalArgumentException, "
                + "IllegalStateException",
        "int sizeOf(int) throws IndexOutOfBoundsException",
        "char tune(char) throws IllegalArgumentException",
        "int tuneStep(int, int) throws IllegalArgumentException",
        "int centsOf(int) throws IllegalArgumentException",
        "int cost(int) throws IndexOutOfBoundsException, UnsupportedOperationException",
        "int laidOn(int, int) throws IndexOutOfBoundsException, UnsupportedOperationException",
        "int keyOf(int, int) throws IndexOutOfBoundsException, UnsupportedOperationException, "
                + "NoSuchElementException",
        "int off(int, int) throws IndexOutOfBoundsException, UnsupportedOperationException, "
                + "NoSuchElementException",
        "char kindOf(int, int) throws IndexOutOfBoundsException, UnsupportedOperationException",
        "int drift(int) throws IndexOutOfBoundsException, UnsupportedOperationException",
        "int lost(int) throws IndexOutOfBoundsException, UnsupportedOperationException",
        "int sung() throws NoSuchElementException",
        "int lean(int, int) throws IndexOutOfBoundsException, UnsupportedOperationException, "
                + "NoSuchElementException",
        "int range(int, int) throws IllegalArgumentException",
        "int tired()",
        "int rest(int) throws IllegalArgumentException",
        "int learn(int) throws IndexOutOfBoundsException, UnsupportedOperationException, "
                + "IllegalStateException",
        "int mastery(int) throws IllegalArgumentException",
        "int next() throws NoSuchElementException",
        "int seat(int, int) throws IllegalArgumentException, IllegalStateException",
        "int choir(int) throws IllegalArgumentException, UnsupportedOperationException",
        "int offOf(int) throws IndexOutOfBoundsException",
        "int swap(int, int) throws IndexOutOfBoundsException",
        "int blend()",
        "int distance(int, int) throws IndexOutOfBoundsException",
        "int parent(int) throws IndexOutOfBoundsException, NoSuchElementException",
        "float share(int) throws IndexOutOfBoundsException, UnsupportedOperationException",
        "double meanPitch() throws ArithmeticException",
        "long checksum()",
        "boolean isTrue()",
    };
    private static final String[] BANNED = {
        "finally", "synchronized", "assert", "instanceof", "->", "::", "import java.util.*",
        "catch", "System.out", "System.exit", "nanoTime", "Random", "Thread", "java.io", "Exact(",
        "double[]", "package ", "static {", "protected", "while", "toString", "hashCode", "@",
    };

    private static final Set<String> LIBRARY = Set.of(
            "java/lang/Object.<init>()V",
            "java/lang/System.arraycopy(Ljava/lang/Object;ILjava/lang/Object;II)V",
            "java/lang/Math.abs(I)I",
            "java/lang/Math.max(II)I",
            "java/lang/Math.min(II)I",
            "java/lang/Math.floorDiv(II)I",
            "java/lang/ArithmeticException.<init>(Ljava/lang/String;)V",
            "java/lang/IllegalArgumentException.<init>(Ljava/lang/String;)V",
            "java/lang/IllegalStateException.<init>(Ljava/lang/String;)V",
            "java/lang/IndexOutOfBoundsException.<init>(Ljava/lang/String;)V",
            "java/lang/UnsupportedOperationException.<init>(Ljava/lang/String;)V",
            "java/util/NoSuchElementException.<init>(Ljava/lang/String;)V");
    private static final Path DOCUMENT = Path.of("../shared/DOC.md");
    private static final Pattern CALL = Pattern.compile("(\\w+ \\w+)\\((.*)\\)( throws .*)?");

    public static void main(String[] args) throws IOException {
        face();
        if (Files.exists(DOCUMENT)) {
            document(Files.readAllLines(DOCUMENT));
        } else {
            System.out.println("LanguageTests: no document there; its face isn't looked up");
        }
        for (Class<?> one : classes()) {
            shapeOf(one);
            namesOf(one);
        }
        CHECKS.holds("few classes", classes().size() <= MOST_CLASSES);
        source();
        CHECKS.end();
    }

    private static List<Class<?>> classes() {
        List<Class<?>> all = new ArrayList<>();
        all.add(Tuneward.class);
        all.addAll(Arrays.asList(Tuneward.class.getDeclaredClasses()));
        return all;
    }

    private static void face() {
        Set<String> got = new TreeSet<>();
        Set<String> names = new TreeSet<>();
        for (Method method : Tuneward.class.getDeclaredMethods()) {
            if (!Modifier.isPrivate(method.getModifiers())) {
                got.add(told(method));
                names.add(method.getName());
                CHECKS.same(method.getName(), method.getModifiers(), Modifier.PUBLIC);
            }
        }
        CHECKS.same("the face", got, new TreeSet<>(Arrays.asList(FACE)));
        for (Method method : Tuneward.class.getDeclaredMethods()) {
            CHECKS.holds("a private name " + method.getName(),
                    Modifier.isPublic(method.getModifiers()) || !names.contains(method.getName()));
        }
        for (Field field : Tuneward.class.getDeclaredFields()) {
            CHECKS.holds("private " + field.getName(), Modifier.isPrivate(field.getModifiers()));
        }
        Constructor<?>[] made = Tuneward.class.getDeclaredConstructors();
        CHECKS.same("one constructor", made.length, 1);
        CHECKS.same("a public constructor", made[0].getModifiers(), Modifier.PUBLIC);
        CHECKS.same("without parameters", made[0].getParameterCount(), 0);
        CHECKS.same("the class", Tuneward.class.getModifiers(), Modifier.PUBLIC | Modifier.FINAL);
    }

    /** The face as it stands in the document, and each promise under its own number. */
    private static void document(List<String> lines) {
        List<String> face = new ArrayList<>();
        List<String> promises = new ArrayList<>();
        List<String> thrown = new ArrayList<>();
        String head = "";
        for (String line : lines) {
            if (line.startsWith("    public ") && !line.contains("Tuneward")) {
                face.add(plain(line.substring(11, line.length() - 1)));
            } else if (line.startsWith("## ")) {
                head = line;
            } else if (line.matches("`\\w+ .*`: .*")) {
                promises.add(plain(line.substring(1, line.indexOf("`: "))));
                thrown.add("");
                String name = line.substring(line.indexOf(' ') + 1, line.indexOf('('));
                CHECKS.same("under its number", head,
                        "## Promise " + (promises.size() + 1) + ": " + name);
            } else if (line.startsWith("Throws `")) {
                int last = thrown.size() - 1;
                thrown.set(last, thrown.get(last) + " " + line.split("`")[1]);
            }
        }
        List<String> due = Arrays.asList(FACE);
        CHECKS.same("the face in the document", face, due);
        CHECKS.same("the face by its promises", promises, due);
        for (int at = 0; at < Math.min(FACE.length, thrown.size()); at++) {
            CHECKS.same("thrown, in order, by " + FACE[at], thrown.get(at).replace(" ", ", "),
                    FACE[at].replaceFirst("^[^)]*\\)( throws)?", "").replaceFirst("^ ", ", "));
        }
    }

    /** A method as the document writes it, without the names of its parameters. */
    private static String plain(String method) {
        Matcher parts = CALL.matcher(method);
        if (!parts.matches()) {
            return method;
        }
        String types = parts.group(2).replaceAll("(\\w+) \\w+", "$1");
        String thrown = parts.group(3) == null ? "" : parts.group(3);
        return parts.group(1) + "(" + types + ")" + thrown;
    }

    /** No library but what is listed, and nothing bound at the first call. */
    private static void namesOf(Class<?> one) throws IOException {
        Compiled compiled = Compiled.of(one);
        CHECKS.holds("no lambda, no texts joined by + in " + one, !compiled.bindsCalls);
        for (String method : compiled.methods) {
            CHECKS.holds(one + " calls " + method,
                    method.startsWith("Tuneward") || LIBRARY.contains(method));
        }
        for (String field : compiled.fields) {
            CHECKS.holds(one + " uses " + field, field.startsWith("Tuneward"));
        }
    }

    private static String told(Method method) {
        StringBuilder text = new StringBuilder(method.getReturnType().getName());
        text.append(' ').append(method.getName()).append('(');
        appendNames(text, method.getParameterTypes());
        text.append(')');
        if (method.getExceptionTypes().length > 0) {
            appendNames(text.append(" throws "), method.getExceptionTypes());
        }
        return text.toString();
    }

    private static void appendNames(StringBuilder text, Class<?>[] types) {
        for (int i = 0; i < types.length; i++) {
            text.append(i > 0 ? ", " : "").append(types[i].getSimpleName());
        }
    }

    private static void shapeOf(Class<?> one) {
        int fields = 0;
        for (Field field : one.getDeclaredFields()) {
            if (Modifier.isStatic(field.getModifiers())) {
                CHECKS.holds("final " + field, Modifier.isFinal(field.getModifiers()));
            } else {
                fields++;
            }
        }
        CHECKS.holds("few fields in " + one, fields <= MOST_FIELDS);
        for (Method method : one.getDeclaredMethods()) {
            CHECKS.holds("few parameters " + method, method.getParameterCount() <= MOST_PARAMETERS);
        }
        if (one != Tuneward.class) {
            CHECKS.holds("static " + one, Modifier.isStatic(one.getModifiers()));
            CHECKS.holds("not public " + one, !Modifier.isPublic(one.getModifiers()));
        }
    }

    private static void source() throws IOException {
        List<String> lines = Files.readAllLines(Path.of("src/main/java/Tuneward.java"));
        String inMethod = null;
        int begun = 0;
        for (int at = 0; at < lines.size(); at++) {
            String line = lines.get(at);
            String trimmed = line.trim();
            boolean comment = trimmed.startsWith("//") || trimmed.startsWith("*")
                    || trimmed.startsWith("/*");
            for (String word : BANNED) {
                CHECKS.holds("line " + (at + 1) + " has " + word, comment || !line.contains(word));
            }
            for (char sign : line.toCharArray()) {
                CHECKS.holds("line " + (at + 1) + " has a sign beyond 126", sign < 127);
            }
            if (line.matches(" {4}( {4})?[a-z].*\\(.*[{,]?$") && !trimmed.endsWith(";")) {
                inMethod = trimmed;
                begun = at;
            }
            if (line.matches(" {4}( {4})?}") && inMethod != null) {
                CHECKS.holds("short: " + inMethod, at - begun <= MOST_LINES);
                inMethod = null;
            }
        }
    }
}
