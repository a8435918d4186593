import java.io.IOException;
import java.lang.reflect.Method;
import java.nio.file.Files;
import java.nio.file.Path;
import java.util.ArrayList;
import java.util.Iterator;
import java.util.List;
import java.util.stream.Stream;

/** The README's example answers what the README says, and the README names every call and every test. */
public final class ReadmeTest {
    private static final Check CHECK = new Check();

    private final Iterator<String> lines;

    private ReadmeTest(List<String> lines) {
        this.lines = lines.iterator();
    }

    public static void main(String[] args) throws IOException {
        Path root = Path.of(args.length > 0 ? args[0] : ".");
        String readme = Files.readString(root.resolve("README.md"));
        List<String> calls = new ArrayList<>();
        readme.lines().filter(line -> line.startsWith("x.")).forEach(calls::add);
        new ReadmeTest(calls).example();
        namesEveryCall(readme);
        namesEveryTest(readme, root.resolve("src/test/java"));
        CHECK.end();
    }

    private void example() {
        LabelLearner x = new LabelLearner();
        line("x.type(0x422F6220412F61L, 7);", x.type(0x422F6220412F61L, 7));
        line("x.load();", x.load());
        line("x.given(0, 1);", x.given(0, 1));
        line("x.errors(false);", x.errors(false));
        line("x.learn(6);", x.learn(6));
        line("x.passes();", x.passes());
        line("x.mistakes();", x.mistakes());
        line("x.type(0x632061L, 3);", x.type(0x632061L, 3));
        line("x.speak();", x.speak());
        line("x.decode(-1, false, false);", x.decode(-1, false, false));
        line("x.label(1);", x.label(1));
        line("x.score(-1, 0b0100, false);", x.score(-1, 0b0100, false));
        line("x.decode(-1, true, true);", x.decode(-1, true, true));
        line("x.label(0);", x.label(0));
        CHECK.same("the example has more lines", lines.hasNext(), false);
    }

    /** The next line of the example is this call, and the comment behind it begins with this answer. */
    private void line(String call, Object answer) {
        String line = lines.hasNext() ? lines.next() : "";
        String told = line.replaceFirst(";\\s+// ", "; ").replaceFirst(":.*", "");
        CHECK.same("a line of the example", told, call + " " + answer);
    }

    private static void namesEveryCall(String readme) {
        for (Method method : LabelLearner.class.getMethods()) {
            boolean own = method.getDeclaringClass() == LabelLearner.class;
            CHECK.same("names " + method.getName(), !own || readme.contains("`" + method.getName() + "("), true);
        }
    }

    private static void namesEveryTest(String readme, Path tests) throws IOException {
        try (Stream<Path> files = Files.list(tests)) {
            files.map(file -> file.getFileName().toString()).filter(name -> name.endsWith("Test.java")).forEach(name -> {
                String test = name.replace(".java", "");
                CHECK.same("names " + test, readme.contains("`" + test + "`"), true);
            });
        }
    }
}
