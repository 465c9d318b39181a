import java.io.IOException;
import java.nio.file.Files;
import java.nio.file.Path;
import java.lang.reflect.Method;
import java.lang.reflect.Modifier;

/** README.md: its example answers what it says there, and every call of the face is told of. */
public final class ReadmeTests {

    private static final Checks CHECKS = new Checks("readme");

    private final String readme;

    private ReadmeTests(String readme) {
        this.readme = readme;
    }

    public static void main(String[] args) throws IOException {
        ReadmeTests tests = new ReadmeTests(Files.readString(Path.of("README.md")));
        tests.example();
        tests.calls();
        CHECKS.finish();
    }

    private void example() {
        ClimateChamber chamber = new ClimateChamber();
        says("chamber.addSegment(230, 400, 3, 2);", chamber.addSegment(230, 400, 3, 2));
        says("chamber.start();", chamber.start());
        says("chamber.doneIn();", chamber.doneIn());
        says("chamber.pass(5);", chamber.pass(5));
        says("chamber.value(5);", chamber.value(5));
        says("chamber.result(0, 2);", chamber.result(0, 2));
        says("chamber.undo();", chamber.undo());
        says("chamber.value(5);", chamber.value(5));
        ClimateChamber other = new ClimateChamber();
        for (char sign : "t230h400r3s2;t-50h0r0s60;".toCharArray()) {
            other.append(sign);
        }
        CHECKS.isTrue("the text's example", readme.contains("`t230h400r3s2;t-50h0r0s60;`"));
        CHECKS.due("segments of the text's example", 2, other.load());
    }

    /** The line of the page that shows the call says what it answers. */
    private void says(String call, int answer) {
        boolean said = readme.lines().anyMatch(line -> line.startsWith(call)
            && line.substring(call.length()).trim().startsWith("// " + answer + ":"));
        CHECKS.isTrue(call + " answers " + answer + ", as the page says", said);
    }

    private void calls() {
        for (Method method : ClimateChamber.class.getDeclaredMethods()) {
            if (Modifier.isPublic(method.getModifiers())) {
                CHECKS.isTrue("the page tells of " + method.getName(),
                    readme.contains("`" + method.getName() + "("));
            }
        }
    }
}
