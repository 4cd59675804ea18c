import java.io.IOException;
import java.lang.reflect.Method;
import java.lang.reflect.Modifier;
import java.nio.file.Files;
import java.nio.file.Path;

/** README.md tells every call, and its example answers what it says. */
public final class ReadmeTest {
    private static final String SIGNS = "3{1m}s 1 7w";

    public static void main(String[] args) throws IOException {
        Path root = Path.of(System.getProperty("main")).resolve("../../../..").normalize();
        String readme = Files.readString(root.resolve("README.md"));
        for (Method m : MachineLoop.class.getDeclaredMethods()) {
            if (Modifier.isPublic(m.getModifiers())) {
                tells(readme, "`" + m.getName() + "(");
            }
        }
        tells(readme, ".ci/run");
        example(readme);
        Check.end();
    }

    private static void example(String readme) {
        MachineLoop x = new MachineLoop(1000);
        tells(readme, "new MachineLoop(1000)");
        tells(readme, "\"" + SIGNS + "\"");
        int job = Check.job(x, SIGNS);
        line(readme, "x.run();", x.run());
        line(readme, "x.ended(job, 0);", x.ended(job, 0));
        line(readme, "x.ended(job, 4);", x.ended(job, 4));
        line(readme, "x.page(job, 0);", x.page(job, 0));
        line(readme, "x.output(0);", x.output(0));
    }

    private static void line(String readme, String call, int answer) {
        boolean isTold = readme.lines().anyMatch(l -> l.matches("\\Q" + call + "\\E +// " + answer + ": .*"));
        Check.same("README.md tells that " + call + " answers " + answer, isTold, true);
    }

    private static void tells(String readme, String text) {
        Check.same("README.md tells " + text, readme.contains(text), true);
    }
}
