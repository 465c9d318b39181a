import java.lang.management.ManagementFactory;
import java.lang.reflect.Constructor;
import java.lang.reflect.Field;
import java.lang.reflect.Method;
import java.lang.reflect.Modifier;
import java.nio.charset.StandardCharsets;
import java.nio.file.Files;
import java.nio.file.Path;
import java.util.Arrays;
import java.util.Set;
import java.util.TreeSet;
import java.util.stream.Collectors;

/** The document's face, and those rules of LANGUAGE.md that can be seen without a compiler. */
public final class FaceTests {

    private static final String[] FACE = {
        "int set(int,int) IndexOutOfBoundsException IllegalArgumentException",
        "int setMode(int,int,int,int) IndexOutOfBoundsException IllegalArgumentException",
        "int setPoints(int,int) IllegalArgumentException IllegalStateException",
        "int door(boolean) IllegalStateException",
        "int pass(int) IllegalArgumentException IllegalStateException",
        "int addSegment(int,int,int,int) IllegalArgumentException IllegalStateException",
        "int removeSegment(int) IndexOutOfBoundsException IllegalStateException",
        "int setCycles(int) IllegalArgumentException IllegalStateException",
        "int start() IllegalStateException",
        "int stop() IllegalStateException",
        "int hold(boolean) IllegalStateException",
        "int undo() IllegalStateException",
        "int value(int) IllegalArgumentException",
        "int setting(int) IndexOutOfBoundsException",
        "int segment(int,int) IndexOutOfBoundsException IllegalArgumentException",
        "int result(int,int) IllegalArgumentException",
        "int audit(int,int) IllegalArgumentException",
        "long auditCode()",
        "int history(int) IllegalArgumentException",
        "int spread(int) IllegalArgumentException",
        "double mean(int) IllegalArgumentException",
        "int valueIn(int,int) IndexOutOfBoundsException IllegalArgumentException",
        "int doneIn() IllegalStateException",
        "int reachIn(int) IllegalArgumentException",
        "int bestMode(int) IllegalArgumentException",
        "int append(int) IllegalArgumentException IllegalStateException",
        "int clear()",
        "int errorPosition()",
        "int load() IllegalArgumentException IllegalStateException",
    };

    private static final String[] FORBIDDEN = {"package ", "finally", "synchronized", "assert ", "->",
        "::", "@", "var ", "while (true)", "for (;;)", "System.out", "System.nano", "System.current",
        "Thread", "Random", "Exact(", "Throwable"};

    private static final String EXCEPTION =
        "(IllegalState|IllegalArgument|IndexOutOfBounds)Exception";

    private static final Checks CHECKS = new Checks("face");

    private FaceTests() {
    }

    public static void main(String[] args) throws Exception {
        face();
        members(ClimateChamber.class);
        for (Class<?> inner : ClimateChamber.class.getDeclaredClasses()) {
            members(inner);
        }
        source(Files.readString(Path.of("src/main/java/ClimateChamber.java"),
            StandardCharsets.US_ASCII));
        room();
        CHECKS.finish();
    }

    private static String told(Method method) {
        String arguments = Arrays.stream(method.getParameterTypes()).map(Class::getSimpleName)
            .collect(Collectors.joining(","));
        String thrown = Arrays.stream(method.getExceptionTypes())
            .map(type -> " " + type.getSimpleName()).collect(Collectors.joining());
        return method.getReturnType().getSimpleName() + " " + method.getName() + "(" + arguments + ")"
            + thrown;
    }

    private static void face() throws Exception {
        Class<?> type = ClimateChamber.class;
        CHECKS.isTrue("public and final", type.getModifiers() == (Modifier.PUBLIC | Modifier.FINAL));
        Set<String> wanted = new TreeSet<>(Arrays.asList(FACE));
        Set<String> found = new TreeSet<>();
        for (Method method : type.getDeclaredMethods()) {
            if (!Modifier.isPrivate(method.getModifiers())) {
                found.add(told(method));
                CHECKS.isTrue(method + " is public alone", method.getModifiers() == Modifier.PUBLIC);
            }
        }
        CHECKS.dueText("methods", String.join("\n", wanted), String.join("\n", found));
        for (Field field : type.getDeclaredFields()) {
            CHECKS.isTrue(field + " is private, but NONE",
                Modifier.isPrivate(field.getModifiers()) || field.getName().equals("NONE"));
        }
        CHECKS.due("modifiers of NONE", Modifier.PUBLIC | Modifier.STATIC | Modifier.FINAL,
            type.getField("NONE").getModifiers());
        CHECKS.due("constructors", 1, type.getDeclaredConstructors().length);
        Constructor<?> constructor = type.getDeclaredConstructor();
        CHECKS.due("modifiers of the constructor", Modifier.PUBLIC, constructor.getModifiers());
    }

    private static void members(Class<?> type) {
        int fields = 0;
        for (Field field : type.getDeclaredFields()) {
            int modifiers = field.getModifiers();
            CHECKS.isTrue(field + " is final if static",
                !Modifier.isStatic(modifiers) || Modifier.isFinal(modifiers));
            fields += Modifier.isStatic(modifiers) ? 0 : 1;
        }
        CHECKS.isTrue("fields of " + type, fields <= 20);
        Set<String> face = Arrays.stream(FACE).map(told -> told.replaceAll("^\\w+ |\\(.*", ""))
            .collect(Collectors.toSet());
        for (Method method : type.getDeclaredMethods()) {
            CHECKS.isTrue("parameters of " + method, method.getParameterCount() <= 7);
            CHECKS.isTrue("name of " + method, Modifier.isPublic(method.getModifiers())
                || !face.contains(method.getName()));
        }
        if (type != ClimateChamber.class) {
            int modifiers = type.getModifiers();
            CHECKS.isTrue(type + " is private and static",
                Modifier.isPrivate(modifiers) && Modifier.isStatic(modifiers));
        }
    }

    private static void source(String text) {
        String code = text.replaceAll("(?s)/\\*.*?\\*/|//[^\n]*", "");
        for (String word : FORBIDDEN) {
            CHECKS.isTrue("no " + word, !code.contains(word));
        }
        CHECKS.isTrue("classes", code.split("\\b(class|record|enum|interface) ", -1).length - 1 <= 12);
        CHECKS.due("throws of the document's exceptions, with written texts",
            code.split("\\bthrow\\b", -1).length - 1,
            code.split("\\bthrow new " + EXCEPTION + "\\((\"[^\"]*\")?\\);", -1).length - 1);
        CHECKS.due("imports of what rule 4 lists", code.split("\\bimport\\b", -1).length - 1,
            code.split("\\bimport java[.]util[.](ArrayList|List|Arrays|Iterator);", -1).length - 1);
        CHECKS.isTrue("no texts joined by +", !code.matches("(?s).*(\"\\s*\\+|\\+\\s*\").*"));
    }

    /** The dearest calls, many times: one object's room is bounded, whatever is called. */
    private static void room() {
        com.sun.management.ThreadMXBean threads =
            (com.sun.management.ThreadMXBean) ManagementFactory.getThreadMXBean();
        long id = Thread.currentThread().getId();
        use(new ClimateChamber());
        long before = threads.getThreadAllocatedBytes(id);
        use(new ClimateChamber());
        long bytes = threads.getThreadAllocatedBytes(id) - before;
        CHECKS.isTrue("512 calls take " + bytes + " bytes", bytes < 100_000);
    }

    private static void use(ClimateChamber chamber) {
        chamber.addSegment(1800, 0, 500, 500);
        chamber.start();
        for (int i = 0; i < 85; i++) {
            chamber.pass(1);
            chamber.bestMode(200);
            chamber.doneIn();
            chamber.reachIn(1800);
            chamber.valueIn(1, 300);
            chamber.undo();
        }
    }
}
