import java.io.IOException;
import java.lang.reflect.Method;
import java.lang.reflect.Modifier;
import java.nio.file.Files;
import java.nio.file.Path;
import java.util.ArrayList;
import java.util.List;
import java.util.stream.Collectors;
import java.util.stream.Stream;

/** README.md: its example runs and answers as it tells, and it names each call of the face and each test. */
public final class ReadmeTest {
    private static final Path PAGE = Path.of("README.md");
    private static final Path TESTS = Path.of("src/test/java");

    public static void main(String[] args) throws IOException {
        example();
        exampleIsThatOfThePage();
        namesOfThePage(Files.readString(PAGE));
        Check.end("ReadmeTest");
    }

    private static void example() {
        Rollbacker game = new Rollbacker();
        int script = game.addScript();
        game.addOperation(script, 'v', 8, 0);
        game.addBox(0, 100, 100, 16, 2, 0, -1);
        game.addBox(1, 300, 100, 10, 1, 0, script);
        game.start(2);

        game.press(0, 2);
        game.setDelay(0, 1, 4);
        game.lose(1, 0, 3);
        game.tick(10);

        int x = game.field(0, 0, 2);
        int sure = game.confirmed(0);
        boolean sound = game.isSound();

        // vx: 4, 8, 11, 14, 17, 19, 21, 23, 25 and 26 in the ten steps.
        Check.gives("x", () -> x, 100 + 4 + 8 + 11 + 14 + 17 + 19 + 21 + 23 + 25 + 26);
        // The packet that arrives last was sent in tick 9, and tells what the three lost ones would have told.
        Check.gives("sure", () -> sure, 9);
        Check.holds("sound", sound);
        Check.gives("x of the ball", () -> game.field(0, 1, 2), 300 + 10 * 8);
        Check.gives("known to the peer with the slow link", () -> game.known(1, 0), 6);
    }

    private static void exampleIsThatOfThePage() throws IOException {
        List<String> told = new ArrayList<>();
        boolean isInside = false;
        for (String line : Files.readAllLines(PAGE)) {
            if (line.startsWith("```")) {
                isInside = line.equals("```java");
            } else if (isInside && !line.isBlank()) {
                told.add(line.replaceAll("//.*", "").strip());
            }
        }
        List<String> run = new ArrayList<>();
        boolean isMethod = false;
        for (String line : Files.readAllLines(TESTS.resolve("ReadmeTest.java"))) {
            if (isMethod && run.size() < told.size() && !line.isBlank()) {
                run.add(line.strip());
            }
            isMethod = isMethod || line.contains("void example() {");
        }
        Check.holds("an example", told.size() > 1);
        Check.gives("the example", () -> run, told);
    }

    private static void namesOfThePage(String page) throws IOException {
        for (Method method : Rollbacker.class.getDeclaredMethods()) {
            if (Modifier.isPublic(method.getModifiers())) {
                Check.holds(method.getName() + " is told", page.contains("`" + method.getName() + "`"));
            }
        }
        for (Class<?> type : Rollbacker.class.getDeclaredClasses()) {
            Check.holds(type.getSimpleName() + " is told", page.contains("`" + type.getSimpleName() + "`"));
        }
        List<String> files;
        try (Stream<Path> found = Files.list(TESTS)) {
            files = found.map(path -> path.getFileName().toString()).collect(Collectors.toList());
        }
        Check.holds("tests", files.size() > 1);
        for (String file : files) {
            Check.holds(file + " is told", page.contains("`" + file.replace(".java", "") + "`"));
        }
    }
}
