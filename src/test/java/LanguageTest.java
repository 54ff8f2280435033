import java.io.IOException;
import java.lang.reflect.Constructor;
import java.lang.reflect.Field;
import java.lang.reflect.Method;
import java.lang.reflect.Modifier;
import java.nio.file.Files;
import java.nio.file.Path;
import java.util.ArrayList;
import java.util.List;
import java.util.Set;
import java.util.TreeSet;
import java.util.regex.Matcher;
import java.util.regex.Pattern;

/** The rules of LANGUAGE.md that can be seen from outside, and the face of the document. */
public final class LanguageTest {
    static final String[] FACE = {"feed/5", "back/1", "read/0", "place/0", "hedge/2", "person/2", "clip/2", "sell/3",
        "close/2", "marry/2", "years/1", "undo/0", "crosses/2", "ask/4", "open/2", "shut/1", "matched/1", "will/2",
        "highest/2", "due/1", "buy/3", "gates/3", "line/3", "eldest/1", "ones/0", "neighbours/1", "between/2", "gaps/1",
        "most/1", "whose/3", "then/3", "aliveIn/1", "year/3", "tell/4", "forget/0", "died/2", "look/1", "hold/1",
        "restore/1", "count/1"};

    public static void main(String[] args) throws IOException {
        String source = Files.readString(Path.of("src/main/java/FenceSides.java"));
        face();
        words(source);
        methods(source);
        rows();
        Check.end("LanguageTest");
    }

    static void face() {
        Set<String> names = new TreeSet<>();
        List<String> found = new ArrayList<>();
        for (Method m : FenceSides.class.getDeclaredMethods()) {
            if (!m.isSynthetic() && !Modifier.isPrivate(m.getModifiers())) {
                found.add(m.getName() + "/" + m.getParameterCount());
                names.add(m.getName());
                Check.due(m.getName() + " is public", Modifier.isPublic(m.getModifiers()), true);
            }
        }
        Check.due("the face " + found, new TreeSet<>(found).equals(new TreeSet<>(List.of(FACE))), true);
        Check.due("no method more", found.size(), FACE.length);
        Check.due("final", Modifier.isFinal(FenceSides.class.getModifiers()), true);
        Constructor<?>[] makers = FenceSides.class.getDeclaredConstructors();
        Check.due("one constructor", makers.length, 1);
        Check.due("without parameters", makers[0].getParameterCount(), 0);
        List<Class<?>> all = new ArrayList<>(List.of(FenceSides.class.getDeclaredClasses()));
        Check.due("classes inside", all.size() <= 12, true);
        all.add(FenceSides.class);
        for (Class<?> c : all) {
            part(c, names);
        }
    }

    static void part(Class<?> c, Set<String> names) {
        if (c != FenceSides.class) {
            Check.due(c + " is static", Modifier.isStatic(c.getModifiers()), true);
        }
        int fields = 0;
        for (Field f : c.getDeclaredFields()) {
            boolean still = Modifier.isStatic(f.getModifiers());
            fields += still ? 0 : 1;
            Check.due(f + " is final if static", !still || Modifier.isFinal(f.getModifiers()), true);
            Check.due(f + " is seen", c != FenceSides.class || Modifier.isPrivate(f.getModifiers()) || f.getName().equals("NONE"), true);
        }
        Check.due(c + " has twenty fields at most", fields <= 20, true);
        for (Method m : c.getDeclaredMethods()) {
            Check.due(m + " has seven parameters at most", m.getParameterCount() <= 7, true);
            boolean own = c == FenceSides.class && Modifier.isPublic(m.getModifiers());
            Check.due(m + " has a name of its own", own || m.isSynthetic() || !names.contains(m.getName()), true);
        }
    }

    static void words(String source) {
        String bare = source.replaceAll("(?s)/\\*.*?\\*/", "").replaceAll("//[^\n]*", "").replaceAll("\"[^\"]*\"", "\"\"");
        for (String word : new String[] {"throw", "throws", "try", "catch", "finally", "synchronized", "assert", "import",
            "package", "var", "Exact", "Object", "System\\.(?!arraycopy)", "->", "::", "\"\" \\+", "\\+ \"\""}) {
            boolean plain = Character.isLetter(word.charAt(0)) && !word.contains("(");
            Matcher m = Pattern.compile(plain ? "\\b" + word + "\\b" : word).matcher(bare);
            Check.due("the source has " + word, m.find(), false);
        }
        for (int i = 0; i < source.length(); i++) {
            Check.due("sign " + i + " is plain", source.charAt(i) < 127, true);
        }
    }

    /** Methods of some sixty lines at most: from a line that opens one to the line that closes it. */
    static void methods(String source) {
        String[] lines = source.split("\n");
        for (int i = 0; i < lines.length; i++) {
            Matcher m = Pattern.compile("^( {4}| {8})[^ /*].*\\) \\{$").matcher(lines[i]);
            if (m.find()) {
                int end = i;
                while (!lines[end].equals(m.group(1) + "}")) {
                    end++;
                }
                Check.due("line " + (i + 1) + " opens a short method", end - i < 60, true);
            }
        }
    }

    /** Rows are made by constructors alone: calls make nothing new. */
    static void rows() {
        com.sun.management.ThreadMXBean beans = (com.sun.management.ThreadMXBean) java.lang.management.ManagementFactory.getThreadMXBean();
        String text = PromisesTest.PARISH + "dies = age / 9; seed 7;";
        FenceSides x = Check.of(text);
        long least = Long.MAX_VALUE;
        for (int turn = 0; turn < 3; turn++) {
            long before = beans.getCurrentThreadAllocatedBytes();
            allCalls(x);
            least = Math.min(least, beans.getCurrentThreadAllocatedBytes() - before);
        }
        Check.due("bytes that calls make: " + least, least < 1000, true);
    }

    static void allCalls(FenceSides x) {
        for (int a = -1; a < 4; a++) {
            for (int b = -1; b < 4; b++) {
                x.hedge(a, b + 6);
                x.person(a, b + 4);
                x.clip(a, b);
                x.sell(a, 0, b);
                x.close(a, b);
                x.marry(a, b);
                x.ask(a, b, 2, 1);
                x.open(a, b);
                x.will(a, b);
                x.highest(a, b);
                x.buy(a, b, 1);
                x.gates(a, b, 1);
                x.line(a, b, 3);
                x.between(a, b);
                x.whose(a, b, 4);
                x.then(a, b, 1);
                x.year(a, b, 4);
                x.tell(a, b, 1, true);
                x.died(a, b);
                x.crosses(a, b);
            }
            x.years(a);
            x.shut(a);
            x.matched(a);
            x.due(a);
            x.eldest(a);
            x.neighbours(a);
            x.gaps(a);
            x.most(a);
            x.aliveIn(a);
            x.look(a);
            x.hold(a);
            x.restore(a);
            x.count(13);
            x.ones();
            x.undo();
            x.forget();
        }
        x.feed(0x6669656c, 0x64206120, 0x3b202020, 0x20202020, 0x20202020);
        x.back(20);
    }
}
