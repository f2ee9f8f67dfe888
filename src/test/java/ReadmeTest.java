import java.io.IOException;
import java.lang.reflect.Method;
import java.lang.reflect.Modifier;
import java.nio.file.Files;
import java.nio.file.Path;
import java.util.List;
import java.util.stream.Collectors;
import java.util.stream.Stream;

/** README.md is as the class is: its example answers what it says, and no call and no test is left out. */
public final class ReadmeTest {
    private static final Check check = new Check("ReadmeTest");

    public static void main(String[] args) throws IOException {
        example();
        String readme = Files.readString(Path.of("README.md"));
        namesEveryCall(readme);
        namesEveryTest(readme);
        check.end();
    }

    private static void example() {
        BlockExchange x = new BlockExchange();
        for (int b = 1; b <= 10; b++) {
            check.due("type(" + b + ")", x.type(b), true);
        }
        int file = x.add(0, 3, 2);
        check.due("entry(7, file)", x.entry(7, file), true);
        int root = x.folder(0);
        check.due("fetch(1, 0, root)", x.fetch(1, 0, root), 1);
        for (int i = 0; i < 100 && x.waiting() > 0; i++) {
            x.deliver(0);
        }
        check.due("waiting()", x.waiting(), 0);
        check.due("state(1)", x.state(1), 2);
        check.due("find(1, root, 7)", x.find(1, root, 7), file);
        check.due("read(1, file, 9)", x.read(1, file, 9), 10);
        check.due("pin(1, file, true, true)", x.pin(1, file, true, true), true);
        check.due("collect(1)", x.collect(1), 1);
        check.due("blocks(1)", x.blocks(1), 7);
    }

    private static void namesEveryCall(String readme) {
        for (Method call : BlockExchange.class.getDeclaredMethods()) {
            if (Modifier.isPublic(call.getModifiers())) {
                boolean named = readme.contains("| `" + call.getName() + "(");
                check.due("README.md has a row for " + call.getName(), named, true);
            }
        }
    }

    private static void namesEveryTest(String readme) throws IOException {
        List<String> tests;
        try (Stream<Path> files = Files.list(Path.of("src/test/java"))) {
            tests = files.map(file -> file.getFileName().toString())
                    .filter(name -> name.endsWith("Test.java"))
                    .map(name -> name.substring(0, name.length() - ".java".length()))
                    .collect(Collectors.toList());
        }
        check.due("there are tests", tests.isEmpty(), false);
        for (String test : tests) {
            check.due("README.md has a row for " + test, readme.contains("| `" + test + "` |"), true);
        }
    }
}
