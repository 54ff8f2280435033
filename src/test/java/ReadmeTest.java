import java.io.IOException;
import java.lang.reflect.Method;
import java.nio.file.Files;
import java.nio.file.Path;
import java.util.ArrayList;
import java.util.List;
import java.util.regex.Matcher;
import java.util.regex.Pattern;

/** What README.md says: each call of its example answers what stands behind it, and its way to put a text is the tests' own. */
public final class ReadmeTest {
    static final Pattern CALL = Pattern.compile("x\\.(\\w+)\\(([^)]*)\\);\\s*// (true|false|-?\\d+)(?:\\s+(.*))?");
    static final int FEWEST_CALLS = 30;

    public static void main(String[] args) throws IOException, ReflectiveOperationException {
        String readme = Files.readString(Path.of("README.md"));
        List<String> blocks = javaBlocks(readme);
        Check.due("README.md: two blocks of Java", blocks.size(), 2);
        if (blocks.size() == 2) {
            example(blocks.get(0));
            sameAsTheTests(blocks.get(1));
        }
        names(readme);
        Check.end("ReadmeTest");
    }

    static List<String> javaBlocks(String readme) {
        List<String> blocks = new ArrayList<>();
        Matcher m = Pattern.compile("(?s)```java\n(.*?)```").matcher(readme);
        while (m.find()) {
            blocks.add(m.group(1));
        }
        return blocks;
    }

    static void example(String block) throws ReflectiveOperationException {
        FenceSides x = null;
        int calls = 0;
        for (String line : block.split("\n")) {
            if (line.equals("FenceSides x = new FenceSides();")) {
                x = new FenceSides();
                continue;
            }
            Matcher m = CALL.matcher(line);
            Check.due("README.md: a call with its answer, <" + line + ">", m.matches() && x != null, true);
            if (m.matches() && x != null) {
                calls++;
                Check.due("README.md: " + line, answer(x, m.group(1), m.group(2)).equals(m.group(3)), true);
                if (m.group(1).equals("feed")) {
                    Check.due("README.md: the bytes of " + line, ("\"" + bytes(m.group(2)) + "\"").equals(m.group(4)), true);
                }
            }
        }
        Check.due("README.md: an example of some length, " + calls, calls >= FEWEST_CALLS && calls <= 512, true);
    }

    static String answer(FenceSides x, String name, String told) throws ReflectiveOperationException {
        String[] parts = told.isEmpty() ? new String[0] : told.split(", ");
        for (Method m : FenceSides.class.getMethods()) {
            if (m.getName().equals(name) && m.getParameterCount() == parts.length) {
                Object[] values = new Object[parts.length];
                for (int i = 0; i < parts.length; i++) {
                    values[i] = m.getParameterTypes()[i] == boolean.class ? (Object) Boolean.valueOf(parts[i]) : Integer.decode(parts[i]);
                }
                return String.valueOf(m.invoke(x, values));
            }
        }
        return "no such call";
    }

    static String bytes(String told) {
        StringBuilder text = new StringBuilder();
        for (String part : told.split(", ")) {
            int four = Integer.decode(part);
            for (int shift = 24; shift >= 0; shift -= 8) {
                text.append((char) (four >>> shift & 255));
            }
        }
        return text.toString();
    }

    /** The methods of the second block stand in Check, which all tests go through. */
    static void sameAsTheTests(String block) throws IOException {
        String check = Files.readString(Path.of("src/test/java/Check.java")).replaceAll("(?m)^    ", "");
        for (String method : block.split("\n\n")) {
            Check.due("README.md: the tests' own <" + method + ">", check.contains(method.strip()), true);
        }
    }

    static void names(String readme) throws IOException {
        for (String name : new String[] {"NONE", "-2", "`false`", "512 calls", ".ci/run", "../shared/DOC.md", "../shared/LANGUAGE.md"}) {
            Check.due("README.md names " + name, readme.contains(name), true);
        }
        try (var files = Files.list(Path.of("src/test/java"))) {
            for (Path file : (Iterable<Path>) files::iterator) {
                String name = file.getFileName().toString().replace(".java", "");
                Check.due("README.md names " + name, !name.endsWith("Test") || readme.contains("`" + name + "`"), true);
            }
        }
    }
}
