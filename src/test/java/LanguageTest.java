import java.io.IOException;
import java.lang.reflect.Constructor;
import java.lang.reflect.Field;
import java.lang.reflect.Method;
import java.lang.reflect.Modifier;
import java.nio.file.Files;
import java.nio.file.Path;
import java.util.ArrayList;
import java.util.List;
import java.util.Set;
import java.util.TreeSet;
import java.util.regex.Matcher;
import java.util.regex.Pattern;

/** The rules of LANGUAGE.md that can be seen from outside, and the face of the document. */
public final class LanguageTest {
    /** The public face as the document has it, line by line. */
    static final String FACE = """
        int feed(int a, int b, int c, int d, int e);
        int back(int n);
        int read();
        int place();
        int hedge(int hedge, int what);
        int person(int person, int what);
        boolean clip(int person, int hedge);
        boolean sell(int hedge, int face, int person);
        boolean close(int person, int hedge);
        boolean marry(int person, int other);
        int years(int n);
        boolean undo();
        int crosses(int person, int hedge);
        int ask(int person, int from, int to, int what);
        int open(int person, int from);
        int shut(int person);
        int matched(int i);
        int will(int person, int other);
        int highest(int n, int what);
        int due(int person);
        int buy(int person, int from, int to);
        int gates(int person, int from, int to);
        int line(int hedge, int face, int i);
        int eldest(int what);
        int ones();
        int neighbours(int person);
        int between(int field, int other);
        int gaps(int n);
        int most(int what);
        int whose(int hedge, int face, int n);
        int then(int hedge, int n, int what);
        int aliveIn(int n);
        int year(int person, int n, int s);
        int tell(int hedge, int face, int person, boolean so);
        int forget();
        int died(int k, int what);
        int look(int k);
        boolean hold(int slot);
        boolean restore(int slot);
        int count(int what);
        """;

    public static void main(String[] args) throws IOException, ReflectiveOperationException {
        String source = Files.readString(Path.of("src/main/java/FenceSides.java"));
        face();
        words(source);
        methods(source);
        rows();
        Check.end("LanguageTest");
    }

    static void face() throws ReflectiveOperationException {
        Set<String> names = new TreeSet<>();
        Set<String> due = new TreeSet<>();
        for (String line : FACE.split(";\n")) {
            due.add(line.strip().replaceAll("(int|boolean) \\w+(?=[,)])", "$1"));
        }
        Set<String> found = new TreeSet<>();
        for (Method m : FenceSides.class.getDeclaredMethods()) {
            if (!m.isSynthetic() && !Modifier.isPrivate(m.getModifiers())) {
                found.add(signature(m));
                names.add(m.getName());
                Check.due(m + " is public and no more", m.getModifiers() == Modifier.PUBLIC, true);
            }
        }
        Check.due("the face " + found + ", due is " + due, found.equals(due), true);
        Check.due("forty methods", found.size(), 40);
        Check.due("the class is public and final", FenceSides.class.getModifiers() == (Modifier.PUBLIC | Modifier.FINAL), true);
        Check.due("it extends nothing", FenceSides.class.getSuperclass() == Object.class, true);
        Check.due("it implements nothing", FenceSides.class.getInterfaces().length, 0);
        Constructor<?>[] makers = FenceSides.class.getDeclaredConstructors();
        Check.due("one constructor", makers.length, 1);
        Check.due("without parameters", makers[0].getParameterCount(), 0);
        Check.due("it is public", makers[0].getModifiers() == Modifier.PUBLIC, true);
        Field none = FenceSides.class.getField("NONE");
        Check.due("NONE is an int", none.getType() == int.class, true);
        Check.due("NONE is a constant", none.getModifiers() == (Modifier.PUBLIC | Modifier.STATIC | Modifier.FINAL), true);
        Check.due("one constant", FenceSides.class.getFields().length, 1);
        List<Class<?>> all = new ArrayList<>(List.of(FenceSides.class.getDeclaredClasses()));
        Check.due("classes inside", all.size() <= 12, true);
        all.add(FenceSides.class);
        for (Class<?> c : all) {
            part(c, names);
        }
    }

    static String signature(Method m) {
        List<String> types = new ArrayList<>();
        for (Class<?> type : m.getParameterTypes()) {
            types.add(type.getName());
        }
        return m.getReturnType().getName() + " " + m.getName() + "(" + String.join(", ", types) + ")";
    }

    static void part(Class<?> c, Set<String> names) {
        if (c != FenceSides.class) {
            Check.due(c + " is static", Modifier.isStatic(c.getModifiers()), true);
        }
        int fields = 0;
        for (Field f : c.getDeclaredFields()) {
            boolean still = Modifier.isStatic(f.getModifiers());
            fields += still ? 0 : 1;
            Check.due(f + " is final if static", !still || Modifier.isFinal(f.getModifiers()), true);
            Check.due(f + " is seen", c != FenceSides.class || Modifier.isPrivate(f.getModifiers()) || f.getName().equals("NONE"), true);
        }
        Check.due(c + " has twenty fields at most", fields <= 20, true);
        for (Method m : c.getDeclaredMethods()) {
            Check.due(m + " has seven parameters at most", m.getParameterCount() <= 7, true);
            boolean own = c == FenceSides.class && Modifier.isPublic(m.getModifiers());
            Check.due(m + " has a name of its own", own || m.isSynthetic() || !names.contains(m.getName()), true);
        }
    }

    static void words(String source) {
        String bare = source.replaceAll("(?s)/\\*.*?\\*/", "").replaceAll("//[^\n]*", "").replaceAll("\"[^\"]*\"", "\"\"");
        for (String word : new String[] {"throw", "throws", "try", "catch", "finally", "synchronized", "assert", "import",
            "package", "var", "Exact", "Object", "System\\.(?!arraycopy)", "->", "::", "\"\" \\+", "\\+ \"\""}) {
            boolean plain = Character.isLetter(word.charAt(0)) && !word.contains("(");
            Matcher m = Pattern.compile(plain ? "\\b" + word + "\\b" : word).matcher(bare);
            Check.due("the source has " + word, m.find(), false);
        }
        for (int i = 0; i < source.length(); i++) {
            Check.due("sign " + i + " is plain", source.charAt(i) < 127, true);
        }
    }

    /** Methods of some sixty lines at most: from a line that opens one to the line that closes it. */
    static void methods(String source) {
        String[] lines = source.split("\n");
        for (int i = 0; i < lines.length; i++) {
            Matcher m = Pattern.compile("^( {4}| {8})[^ /*].*\\) \\{$").matcher(lines[i]);
            if (m.find()) {
                int end = i;
                while (!lines[end].equals(m.group(1) + "}")) {
                    end++;
                }
                Check.due("line " + (i + 1) + " opens a short method", end - i < 60, true);
            }
        }
    }

    /** Rows are made by constructors alone: calls make nothing new. An object is asked for fewer than 512 of them. */
    static void rows() {
        com.sun.management.ThreadMXBean beans = (com.sun.management.ThreadMXBean) java.lang.management.ManagementFactory.getThreadMXBean();
        String text = PromisesTest.PARISH + "dies = age / 9; seed 7;";
        for (int first = -1; first <= 2; first++) {
            long least = Long.MAX_VALUE;
            // What the machine itself makes the first time is not the class's.
            for (int turn = 0; turn < 3; turn++) {
                FenceSides x = Check.of(text);
                Check.put(x, text);
                long before = beans.getCurrentThreadAllocatedBytes();
                allCalls(x, first);
                least = Math.min(least, beans.getCurrentThreadAllocatedBytes() - before);
            }
            Check.due("bytes that calls make: " + least, least < 1000, true);
        }
    }

    static void allCalls(FenceSides x, int first) {
        for (int a = first; a < first + 3; a++) {
            for (int b = -1; b < 4; b++) {
                x.hedge(a, b + 6);
                x.person(a, b + 4);
                x.clip(a, b);
                x.sell(a, 0, b);
                x.close(a, b);
                x.marry(a, b);
                x.ask(a, b, 2, 1);
                x.open(a, b);
                x.will(a, b);
                x.highest(a, b);
                x.buy(a, b, 1);
                x.gates(a, b, 1);
                x.line(a, b, 3);
                x.between(a, b);
                x.whose(a, b, 4);
                x.then(a, b, 1);
                x.year(a, b, 4);
                x.tell(a, b, 1, true);
                x.died(a, b);
                x.crosses(a, b);
            }
            x.years(a);
            x.shut(a);
            x.matched(a);
            x.due(a);
            x.eldest(a);
            x.neighbours(a);
            x.gaps(a);
            x.most(a);
            x.aliveIn(a);
            x.look(a);
            x.hold(a);
            x.restore(a);
            x.count(13);
            x.ones();
            x.undo();
            x.forget();
        }
        x.read();
        x.place();
        x.feed(0x6669656c, 0x64206120, 0x3b202020, 0x20202020, 0x20202020);
        x.back(20);
        x.feed(0x6669656c, 0x64206120, 0x20202020, 0x20202020, 0x20202020);
        x.read();
        x.place();
    }
}
