import java.io.IOException;
import java.lang.reflect.Method;
import java.lang.reflect.Modifier;
import java.nio.charset.StandardCharsets;
import java.nio.file.Files;
import java.nio.file.Path;
import java.util.ArrayList;
import java.util.List;
import java.util.regex.Matcher;
import java.util.regex.Pattern;

/** README.md tells what is so: its examples answer as it says, and it names every call, every finding and every test. */
public final class ReadmeTest {
    private static final Check CHECK = new Check("ReadmeTest");
    private static final Pattern BLOCK = Pattern.compile("(?s)```java\n(.*?)```");
    private static final Pattern CALL = Pattern.compile("plane\\.(\\w+\\([^)]*\\));\\s*(?://\\s*(-?\\d+)\\b)?.*");

    public static void main(String[] args) throws IOException {
        String readme = Files.readString(Path.of("README.md"), StandardCharsets.UTF_8);
        examples(readme);
        calls(readme);
        findings(readme);
        tests(readme);
        CHECK.end();
    }

    private static void examples(String readme) {
        int told = 0;
        Matcher block = BLOCK.matcher(readme);
        while (block.find()) {
            FlowPlane plane = new FlowPlane();
            for (String line : block.group(1).split("\n")) {
                Matcher call = CALL.matcher(line);
                if (!call.matches()) {
                    CHECK.holds("a line of the example: " + line, line.isBlank() || line.contains("new FlowPlane()"));
                    continue;
                }
                int got = Calls.byText(plane, call.group(1));
                if (call.group(2) != null) {
                    told++;
                    CHECK.due(line, got, Integer.parseInt(call.group(2)));
                }
            }
        }
        CHECK.holds("the examples tell answers", told > 10);
    }

    private static void calls(String readme) {
        for (Method m : FlowPlane.class.getDeclaredMethods()) {
            if (Modifier.isPublic(m.getModifiers())) {
                CHECK.holds(m.getName() + " is named", readme.contains("`" + m.getName() + "`"));
            }
        }
    }

    private static void findings(String readme) {
        String[] names = {"BEYOND", "MISSING", "SIZE", "KIND", "FULL", "NONE", "REST"};
        for (int i = 0; i < names.length; i++) {
            CHECK.holds(names[i] + " is told", readme.contains("| " + (-1000001 - i) + " | " + names[i] + " |"));
        }
    }

    private static void tests(String readme) throws IOException {
        List<Path> files = new ArrayList<>();
        try (var found = Files.newDirectoryStream(Path.of("src/test/java"), "*Test.java")) {
            found.forEach(files::add);
        }
        CHECK.holds("there are tests", !files.isEmpty());
        for (Path file : files) {
            String name = file.getFileName().toString().replace(".java", "");
            CHECK.holds(name + " is named", readme.contains("`" + name + "`"));
        }
    }
}
