import java.io.IOException;
import java.lang.reflect.Constructor;
import java.lang.reflect.Field;
import java.lang.reflect.Method;
import java.lang.reflect.Modifier;
import java.nio.charset.StandardCharsets;
import java.nio.file.Files;
import java.nio.file.Path;
import java.util.Arrays;
import java.util.Set;
import java.util.TreeSet;

/** The document's face, and those rules of LANGUAGE.md that can be seen from outside or in the text. */
public final class LanguageTest {
    private static final Check CHECK = new Check("LanguageTest");
    private static final Path SOURCE = Path.of("src/main/java/FlowPlane.java");
    private static final String[] FACE = {
        "put(boolean,int,int)", "number(boolean,int)", "speed(int,int,boolean)", "slope(int,int,int)", "back()", "quarter()",
        "mirror()", "move(int,int)", "add(int,int)", "rests()", "rest(int,boolean)", "sort(int,int)", "sorts(int)",
        "corner(int,int)", "open()", "simple(boolean)", "area()", "within(int,int)", "across(int)", "turns(int)",
        "held(boolean)", "wind()", "indexes()", "along(int,int,int,int,int,int)", "falls(int,int,int,int,int,int,int)",
        "kept()", "none(int,int,int,int)", "edge()", "far(int,int)", "keep(int)", "bring(int)", "as(int,int)",
        "sheet(int,int,int)", "write(int,int,int)", "copy(int,int,int,int,int)", "lay(int)", "undo()", "told(int)"};

    public static void main(String[] args) throws IOException {
        face();
        classesInside();
        words();
        methodLengths();
        depth();
        CHECK.end();
    }

    private static String signature(Method m) {
        StringBuilder text = new StringBuilder(m.getName()).append('(');
        for (Class<?> type : m.getParameterTypes()) {
            text.append(text.charAt(text.length() - 1) == '(' ? "" : ",").append(type.getName());
        }
        return text.append(')').toString();
    }

    private static void face() {
        Set<String> due = new TreeSet<>(Arrays.asList(FACE));
        Set<String> names = new TreeSet<>();
        int modifiers = FlowPlane.class.getModifiers();
        CHECK.holds("the class is public and final", Modifier.isPublic(modifiers) && Modifier.isFinal(modifiers));
        Constructor<?>[] constructors = FlowPlane.class.getDeclaredConstructors();
        CHECK.due("constructors", constructors.length, 1);
        CHECK.holds("the constructor is public and takes nothing",
            Modifier.isPublic(constructors[0].getModifiers()) && constructors[0].getParameterCount() == 0);
        int found = 0;
        for (Method m : FlowPlane.class.getDeclaredMethods()) {
            if (Modifier.isPublic(m.getModifiers())) {
                found++;
                names.add(m.getName());
                CHECK.holds(signature(m) + " is in the document", due.contains(signature(m)));
                CHECK.holds(signature(m) + " answers an int", m.getReturnType() == int.class);
            }
        }
        CHECK.due("public methods", found, FACE.length);
        for (Method m : FlowPlane.class.getDeclaredMethods()) {
            boolean open = Modifier.isPublic(m.getModifiers());
            CHECK.holds(m.getName() + " is public or private", open || Modifier.isPrivate(m.getModifiers()));
            CHECK.holds(m.getName() + " bears no public name", open || !names.contains(m.getName()));
        }
        for (Field f : FlowPlane.class.getDeclaredFields()) {
            CHECK.holds(f.getName() + " is private", Modifier.isPrivate(f.getModifiers()));
        }
    }

    private static void classesInside() {
        Class<?>[] inside = FlowPlane.class.getDeclaredClasses();
        CHECK.holds("at most twelve classes", inside.length < 12);
        for (Class<?> c : inside) {
            CHECK.holds(c + " is static", Modifier.isStatic(c.getModifiers()));
        }
        Class<?>[] all = Arrays.copyOf(inside, inside.length + 1);
        all[inside.length] = FlowPlane.class;
        for (Class<?> c : all) {
            int fields = 0;
            for (Field f : c.getDeclaredFields()) {
                boolean fixed = Modifier.isStatic(f.getModifiers());
                fields += fixed ? 0 : 1;
                CHECK.holds(f + " is final if static", !fixed || Modifier.isFinal(f.getModifiers()));
            }
            CHECK.holds(c + " has at most twenty fields", fields <= 20);
            for (Method m : c.getDeclaredMethods()) {
                CHECK.holds(m + " takes at most seven", m.getParameterCount() <= 7);
            }
        }
    }

    /** The text without comments: words there are no code. */
    private static String code() throws IOException {
        String text = Files.readString(SOURCE, StandardCharsets.US_ASCII);
        return text.replaceAll("(?s)/\\*.*?\\*/", "").replaceAll("//[^\n]*", "");
    }

    private static void words() throws IOException {
        String code = code();
        String[] refused = {"throw", "throws", "try", "catch", "synchronized", "assert", "import", "package", "null",
            "protected", "instanceof", "Object", "double", "float"};
        for (String word : refused) {
            CHECK.holds("no " + word, !code.matches("(?s).*\\b" + word + "\\b.*"));
        }
        for (String sign : new String[] {"->", "::", "Exact", "\"", "@"}) {
            CHECK.holds("no " + sign, !code.contains(sign));
        }
        // No call makes an object: 'new' stands in the constructor and in what makes fields alone.
        String constructor = code.substring(code.indexOf("public FlowPlane()"), code.indexOf("public int put"));
        String rest = code.replace(constructor, "").replaceAll("(?m)^\\s+final [^\n]*= new [^\n]*;$", "");
        CHECK.holds("no object is made in a call", !rest.matches("(?s).*\\bnew\\b.*"));
    }

    private static void methodLengths() throws IOException {
        String[] lines = Files.readString(SOURCE, StandardCharsets.US_ASCII).split("\n");
        int begun = -1;
        String indent = "";
        for (int i = 0; i < lines.length; i++) {
            if (begun < 0 && lines[i].matches("\\s+[^=/*]*\\) \\{") && !lines[i].matches("\\s+(if|for|while|switch|\\}).*")) {
                begun = i;
                indent = lines[i].substring(0, lines[i].length() - lines[i].stripLeading().length());
            } else if (begun >= 0 && lines[i].equals(indent + "}")) {
                CHECK.holds("line " + (begun + 1) + ": at most sixty lines", i - begun < 60);
                begun = -1;
            }
        }
        CHECK.holds("each method ended", begun < 0);
    }

    /** The longest chain of calls among the class's own methods, told by name: at most eight, and no ring. */
    private static void depth() throws IOException {
        String code = code();
        java.util.Map<String, String> bodies = new java.util.TreeMap<>();
        java.util.regex.Matcher m = java.util.regex.Pattern
            .compile("(?m)^(\\s+)(?:public |private )?(?:static )?[\\w\\[\\]]+ (\\w+)\\([^)]*\\) \\{$").matcher(code);
        while (m.find()) {
            String indent = m.group(1).substring(m.group(1).lastIndexOf('\n') + 1);
            int end = code.indexOf("\n" + indent + "}", m.end());
            bodies.merge(m.group(2), code.substring(m.end(), end), String::concat);
        }
        CHECK.holds("methods are found", bodies.size() > 60);
        for (String name : bodies.keySet()) {
            CHECK.holds(name + " goes at most eight deep", depthOf(name, bodies, 1) <= 8);
        }
    }

    private static int depthOf(String name, java.util.Map<String, String> bodies, int at) {
        int deepest = at;
        if (at > 12) {
            return at;
        }
        java.util.regex.Matcher m = java.util.regex.Pattern.compile("\\b(\\w+)\\(").matcher(bodies.get(name));
        while (m.find()) {
            // Methods of one name in two classes (become, fits, countNotZero) call one another, not themselves.
            if (bodies.containsKey(m.group(1)) && !m.group(1).equals(name)) {
                deepest = Math.max(deepest, depthOf(m.group(1), bodies, at + 1));
            }
        }
        return deepest;
    }
}
