import java.io.IOException;
import java.lang.reflect.Constructor;
import java.lang.reflect.Field;
import java.lang.reflect.Method;
import java.lang.reflect.Modifier;
import java.nio.charset.StandardCharsets;
import java.nio.file.Files;
import java.nio.file.Path;
import java.util.Set;
import java.util.TreeSet;
import java.util.regex.Matcher;
import java.util.regex.Pattern;

/** The public face of the document, and those rules of LANGUAGE.md that can be told from outside. */
public final class FaceTest {
    private static final Path SOURCE = Path.of("src", "main", "java", "ShipJournal.java");
    private static final String ARGUMENT = " throws IllegalArgumentException";
    private static final String INDEX = " throws IndexOutOfBoundsException";
    private static final String STATE = " throws IllegalStateException";
    private static final Set<String> FACE = Set.of(
            "int begin(int)" + ARGUMENT,
            "int write(int,int,int,int)" + ARGUMENT + STATE,
            "int spoil(int,int)" + INDEX + ARGUMENT,
            "int repair()",
            "int replay(int,int)" + INDEX + ARGUMENT,
            "int snapshot(int)" + INDEX + STATE,
            "int crash(int)" + INDEX,
            "int link(int,boolean)" + INDEX + STATE,
            "int order(int,int)" + INDEX + ARGUMENT,
            "int ship(int,int)" + INDEX + ARGUMENT,
            "int hold(int,int)" + INDEX,
            "int value(int)" + ARGUMENT,
            "int ahead(int)" + INDEX,
            "int stop(int)" + INDEX,
            "int tonsAt(int,int)" + INDEX,
            "int agree()",
            "int roomBy(int)" + INDEX,
            "int slower()",
            "double fullness()",
            "int append(int)" + ARGUMENT + STATE,
            "int clearText()",
            "int carryOut()",
            "int undo()" + STATE,
            "long digest()");
    private static final String[] RULED_OUT = {"package ", "import ", "->", "::", "catch", "finally", "static {",
        "synchronized", "assert", "protected ", "System.out", "Random", "Thread", "nanoTime", "currentTimeMillis"};
    private static final Set<String> LIBRARY =
            Set.of("Math.min", "Math.max", "Integer.bitCount", "System.arraycopy");
    private static final Pattern LIBRARY_CALL = Pattern.compile("\\b[A-Z][a-z]\\w*\\.\\w+");
    private static final Pattern METHOD =
            Pattern.compile("(?ms)^( {4}| {8})(?! )[^\\n;{}]*\\([^;{}]*\\{\\n.*?^\\1}$");
    private static final int MOST_CLASSES = 12;
    private static final int MOST_FIELDS = 20;
    private static final int MOST_PARAMETERS = 7;
    private static final int MOST_LINES = 60;

    private static final Check CHECK = new Check();

    public static void main(String[] args) throws IOException {
        methodsAreTheFace();
        constantAndConstructor();
        nothingElseIsVisible();
        classesKeepToTheRules();
        String source = Files.readString(SOURCE, StandardCharsets.US_ASCII);
        sourceKeepsToTheRules(source);
        methodsAreShort(source);
        callsMakeNoObject(source);
        CHECK.close("FaceTest");
    }

    private static String signature(Method m) {
        StringBuilder s = new StringBuilder(m.getReturnType().getName());
        s.append(' ').append(m.getName()).append('(');
        for (int i = 0; i < m.getParameterCount(); i++) {
            s.append(i == 0 ? "" : ",").append(m.getParameterTypes()[i].getName());
        }
        s.append(')');
        for (Class<?> e : m.getExceptionTypes()) {
            s.append(" throws ").append(e.getSimpleName());
        }
        return s.toString();
    }

    private static void methodsAreTheFace() {
        Set<String> found = new TreeSet<>();
        for (Method m : ShipJournal.class.getDeclaredMethods()) {
            if (!Modifier.isPrivate(m.getModifiers()) && !m.isSynthetic()) {
                found.add(signature(m));
                CHECK.holds(m.getName() + " is public and of the object",
                        (m.getModifiers() & ~Modifier.FINAL) == Modifier.PUBLIC);
            }
        }
        for (String due : FACE) {
            CHECK.holds("the face has " + due, found.contains(due));
        }
        for (String name : found) {
            CHECK.holds("the document has " + name, FACE.contains(name));
        }
    }

    private static void constantAndConstructor() {
        CHECK.same("NONE", -1, () -> ShipJournal.NONE);
        int modifiers = ShipJournal.class.getModifiers();
        CHECK.holds("the class is public and final", Modifier.isPublic(modifiers) && Modifier.isFinal(modifiers));
        Constructor<?>[] constructors = ShipJournal.class.getDeclaredConstructors();
        CHECK.same("one constructor", 1, () -> constructors.length);
        CHECK.same("without arguments", 0, () -> constructors[0].getParameterCount());
        CHECK.holds("public", Modifier.isPublic(constructors[0].getModifiers()));
    }

    private static void nothingElseIsVisible() {
        for (Field f : ShipJournal.class.getDeclaredFields()) {
            boolean none = f.getName().equals("NONE");
            CHECK.holds("field " + f.getName() + " is private", none || Modifier.isPrivate(f.getModifiers()));
        }
        Set<String> names = new TreeSet<>();
        for (String due : FACE) {
            names.add(due.substring(due.indexOf(' ') + 1, due.indexOf('(')));
        }
        for (Class<?> c : ShipJournal.class.getDeclaredClasses()) {
            int modifiers = c.getModifiers();
            CHECK.holds("class " + c.getSimpleName() + " is hidden",
                    !Modifier.isPublic(modifiers) && !Modifier.isProtected(modifiers));
            for (Method m : c.getDeclaredMethods()) {
                CHECK.holds("rule 1: " + m.getName() + " in " + c.getSimpleName(), !names.contains(m.getName()));
            }
        }
        for (Method m : ShipJournal.class.getDeclaredMethods()) {
            CHECK.holds("rule 1: private " + m.getName(),
                    !Modifier.isPrivate(m.getModifiers()) || !names.contains(m.getName()));
        }
    }

    private static void classesKeepToTheRules() {
        Class<?>[] inside = ShipJournal.class.getDeclaredClasses();
        CHECK.holds("rule 11: so many classes", inside.length + 1 <= MOST_CLASSES);
        classKeepsToTheRules(ShipJournal.class);
        for (Class<?> c : inside) {
            CHECK.holds("rule 2: " + c.getSimpleName() + " is static", Modifier.isStatic(c.getModifiers()));
            classKeepsToTheRules(c);
        }
    }

    private static void classKeepsToTheRules(Class<?> c) {
        int fields = 0;
        for (Field f : c.getDeclaredFields()) {
            boolean constant = Modifier.isStatic(f.getModifiers());
            fields += constant ? 0 : 1;
            CHECK.holds("rule 5: " + f.getName() + " is final", !constant || Modifier.isFinal(f.getModifiers()));
        }
        CHECK.holds("rule 11: fields of " + c.getSimpleName(), fields <= MOST_FIELDS);
        for (Method m : c.getDeclaredMethods()) {
            CHECK.holds("rule 11: parameters of " + m.getName(), m.getParameterCount() <= MOST_PARAMETERS);
        }
    }

    private static void sourceKeepsToTheRules(String source) {
        for (String word : RULED_OUT) {
            CHECK.holds("the source has no \"" + word + "\"", !source.contains(word));
        }
        Matcher calls = LIBRARY_CALL.matcher(source);
        while (calls.find()) {
            CHECK.holds("rule 4: " + calls.group(), LIBRARY.contains(calls.group()));
        }
    }

    /** By indentation: from a line that begins a method to the brace that stands right below it. */
    private static void methodsAreShort(String source) {
        Matcher methods = METHOD.matcher(source);
        int found = 0;
        while (methods.find()) {
            found++;
            String head = methods.group().strip().lines().findFirst().orElse("");
            CHECK.holds("rule 11: too long is " + head, methods.group().lines().count() <= MOST_LINES);
        }
        CHECK.holds("the methods are found", found > FACE.size());
    }

    /** All calls of a run share one room: rows are made with the object, and used again. */
    private static void callsMakeNoObject(String source) {
        long made = source.lines().filter(line -> line.contains("new "))
                .filter(line -> !line.contains("throw new ") && !line.contains("final ")).count();
        CHECK.same("rule 12: the constructor's loop alone makes objects", 1, () -> made);
    }
}
