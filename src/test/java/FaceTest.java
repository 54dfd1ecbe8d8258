import java.io.IOException;
import java.nio.charset.StandardCharsets;
import java.nio.file.Files;
import java.nio.file.Path;
import java.util.ArrayList;
import java.util.List;
import java.util.regex.Matcher;
import java.util.regex.Pattern;

/** 'The public face' and what 'the interface says' ahead of the calls: the class bears both in the document's very words. */
public final class FaceTest {
    private static final Check CHECK = new Check("FaceTest");
    private static final Path PAGE = Path.of("../shared/DOC.md");
    private static final Path SOURCE = Path.of("src/main/java/FlowPlane.java");
    private static final Pattern AHEAD = Pattern.compile("Ahead of the calls ([^\n]*?) the interface says: (---- [^\n]*)\\.\n");

    public static void main(String[] args) throws IOException {
        String page = Files.readString(PAGE, StandardCharsets.UTF_8);
        String code = Files.readString(SOURCE, StandardCharsets.US_ASCII);
        List<String> face = face(page);
        CHECK.holds("the document has a face", face.size() > 2);
        declarations(face, code);
        promisesHaveTheFace(face, page);
        headings(face, page, code);
        CHECK.end();
    }

    /** The face's lines without their last sign: the class, the constructor, the calls. */
    private static List<String> face(String page) {
        int start = page.indexOf("```java\n") + "```java\n".length();
        String[] lines = page.substring(start, page.indexOf("```", start)).split("\n");
        List<String> face = new ArrayList<>();
        for (String line : lines) {
            if (line.contains("public ")) {
                face.add(line.trim().replaceAll("\\s*[;{]$", ""));
            }
        }
        return face;
    }

    /** Each stands once, in the document's order, and nothing else is public. */
    private static void declarations(List<String> face, String code) {
        int at = 0;
        for (String line : face) {
            int found = code.indexOf(line + " {", at);
            CHECK.holds(line + " stands in its order", found >= 0);
            CHECK.due(line + " stands", code.split(Pattern.quote(line + " {"), -1).length - 1, 1);
            at = Math.max(at, found);
        }
        CHECK.due("what is public", Pattern.compile("\\bpublic\\b").matcher(code).results().count(), face.size());
    }

    private static void promisesHaveTheFace(List<String> face, String page) {
        for (int n = 1; n < face.size(); n++) {
            String promise = "## Promise " + n + ":";
            String declaration = "`" + face.get(n).replace("public ", "") + "`:";
            int start = page.indexOf(promise);
            int end = page.indexOf("\n## ", start + 1);
            CHECK.holds(promise + " is of " + declaration, start >= 0 && page.substring(start, end).contains(declaration));
        }
    }

    private static void headings(List<String> face, String page, String code) {
        int calls = 0;
        Matcher ahead = AHEAD.matcher(page);
        while (ahead.find()) {
            for (String name : ahead.group(1).replace("`", "").split(", ")) {
                calls++;
                int at = code.indexOf("    public int " + name + "(");
                CHECK.holds(name + " stands in the class", at >= 0);
                int heading = code.lastIndexOf("// ----", Math.max(at, 0));
                String said = heading < 0 ? "" : code.substring(heading + 3, code.indexOf('\n', heading));
                CHECK.holds(name + " stands behind " + ahead.group(2) + ", not " + said, said.equals(ahead.group(2)));
            }
        }
        CHECK.due("calls behind a heading", calls, face.size() - 2);
    }
}
