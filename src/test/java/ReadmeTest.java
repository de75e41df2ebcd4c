import java.io.IOException;
import java.lang.reflect.Method;
import java.lang.reflect.Modifier;
import java.nio.file.Files;
import java.nio.file.Path;
import java.util.List;
import java.util.regex.Matcher;
import java.util.regex.Pattern;
import java.util.stream.Stream;

/**
 * README.md says how to use the class: its example is called line by line, each call
 * and each refusal has its place there: `ReadmeTest class-file`, by which README.md is found.
 */
public final class ReadmeTest {
    private static final Due DUE = new Due();
    private static final Pattern ASKED = Pattern.compile("winter\\.(\\w+)\\(([-\\d, ]*)\\); +// (-?\\d+)(:.*)?");
    private static final Pattern FED = Pattern.compile("for \\(char c : \"([^\"]*)\"\\.toCharArray\\(\\)\\) winter\\.feed\\(c\\);");

    public static void main(String[] args) throws IOException, ReflectiveOperationException {
        if (args.length == 0) {
            DUE.isTrue("by the class's file README.md is found: name it", false);
            DUE.end("ReadmeTest");
            return;
        }
        Path root = Path.of(args[0]).toAbsolutePath().resolve("../../../..").normalize();
        String readme = Files.readString(root.resolve("README.md"));
        example(readme);
        calls(readme);
        refusals(readme);
        tests(readme, root.resolve("src/test/java"));
        DUE.end("ReadmeTest");
    }

    private static void example(String readme) throws ReflectiveOperationException {
        DUE.about("README.md's example");
        Matcher block = Pattern.compile("(?s)```java\n(.*?)```").matcher(readme);
        DUE.isTrue("there is none", block.find());
        String[] lines = block.group(1).split("\n");
        DUE.isTrue("how an object is made", lines[0].equals("OneWinter winter = new OneWinter();"));
        OneWinter winter = new OneWinter();
        for (int i = 1; i < lines.length; i++) {
            Matcher asked = ASKED.matcher(lines[i]);
            Matcher fed = FED.matcher(lines[i]);
            if (fed.matches()) {
                Winters.feedAll(winter, fed.group(1));
            } else if (asked.matches()) {
                DUE.is(lines[i], answer(winter, asked.group(1), asked.group(2)), Long.parseLong(asked.group(3)));
            } else {
                DUE.isTrue("it does not tell what this answers: " + lines[i], false);
            }
        }
    }

    private static long answer(OneWinter winter, String name, String numbers) throws ReflectiveOperationException {
        String[] words = numbers.isEmpty() ? new String[0] : numbers.split(", ");
        Object[] all = new Object[words.length];
        Class<?>[] types = new Class<?>[words.length];
        for (int i = 0; i < words.length; i++) {
            all[i] = Integer.parseInt(words[i]);
            types[i] = int.class;
        }
        return ((Number) OneWinter.class.getMethod(name, types).invoke(winter, all)).longValue();
    }

    private static void calls(String readme) {
        DUE.about("README.md's calls");
        for (Method m : OneWinter.class.getDeclaredMethods()) {
            if (Modifier.isPublic(m.getModifiers())) {
                Matcher row = Pattern.compile("(?m)^\\| `" + m.getName() + "\\(([^)]*)\\)` \\| .+ \\| .*\\|$").matcher(readme);
                boolean there = row.find();
                DUE.isTrue("there is no row of " + m.getName(), there);
                if (there) {
                    int many = row.group(1).isEmpty() ? 0 : row.group(1).split(", ").length;
                    DUE.is("parameters of " + m.getName(), many, m.getParameterCount());
                }
            }
        }
    }

    private static void refusals(String readme) {
        DUE.about("README.md's refusals");
        for (String answer : List.of("-2 (`BAD`)", "-3 (`STATE`)", "-4 (`FULL`)", "-4611686018427387904 (`NO`)",
                "-100000", "-1000000", "-11", "-12", "-13", "-14")) {
            DUE.isTrue("there is no row of " + answer, readme.contains("\n| " + answer + " | "));
        }
        DUE.isTrue("a fault is told", readme.contains("-100 less its"));
        DUE.isTrue("NONE is told", readme.contains("-1 (`NONE`)"));
    }

    private static void tests(String readme, Path folder) throws IOException {
        DUE.about("README.md's tests");
        DUE.isTrue("how they are run", readme.contains("```sh\n.ci/run\n```"));
        try (Stream<Path> files = Files.list(folder)) {
            for (Path file : files.toList()) {
                String name = file.getFileName().toString().replace(".java", "");
                DUE.isTrue("it does not name " + name, readme.contains("`" + name + "`"));
            }
        }
    }
}
