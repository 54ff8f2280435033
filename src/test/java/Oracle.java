import java.util.ArrayDeque;
import java.util.ArrayList;
import java.util.Arrays;
import java.util.Deque;
import java.util.HashMap;
import java.util.HashSet;
import java.util.List;
import java.util.Map;
import java.util.Set;

/** The document once more, in the slowest and most literal way, to be held against FenceSides. */
final class Oracle {
    static final Set<String> WORDS = Set.of("field", "person", "hedge", "heirs", "grows", "dies", "falls", "costs",
        "seed", "if", "then", "else", "high", "years", "age", "faces", "which", "outer", "inner", "clipped", "gaps");

    record Token(String kind, String text, int place) {
    }

    static final class DividedByZero extends Exception {
        private static final long serialVersionUID = 1L;
    }

    /** One year's picture of the parish. */
    static final class World {
        int year;
        boolean[] alive;
        int[] age;
        int[] spouse;
        int[][] owner;
        int[] high;
        boolean[] gap;
        Integer[] clipped;

        World twin() {
            World w = new World();
            w.year = year;
            w.alive = alive.clone();
            w.age = age.clone();
            w.spouse = spouse.clone();
            w.owner = new int[owner.length][];
            for (int h = 0; h < owner.length; h++) {
                w.owner[h] = owner[h].clone();
            }
            w.high = high.clone();
            w.gap = gap.clone();
            w.clipped = clipped.clone();
            return w;
        }
    }

    /** What a text told. */
    static final class Script {
        final List<String> fields = new ArrayList<>();
        final List<String> people = new ArrayList<>();
        final List<Integer> ages = new ArrayList<>();
        final List<int[]> hedges = new ArrayList<>();
        final Map<Integer, int[]> heirs = new HashMap<>();
        final Map<String, List<Token>> laws = new HashMap<>();
        int seed;
    }

    String tape = "";
    int place = -1;
    Script script = new Script();
    World now;
    final Deque<World> past = new ArrayDeque<>();
    final List<int[]> told = new ArrayList<>();
    final World[] slots = new World[3];

    Oracle() {
        now = start(script);
    }

    static World start(Script s) {
        World w = new World();
        int p = s.people.size();
        int h = s.hedges.size();
        w.alive = new boolean[p];
        Arrays.fill(w.alive, true);
        w.age = s.ages.stream().mapToInt(i -> i).toArray();
        w.spouse = new int[p];
        Arrays.fill(w.spouse, -2);
        w.owner = new int[h][];
        w.high = new int[h];
        w.gap = new boolean[h];
        w.clipped = new Integer[h];
        for (int i = 0; i < h; i++) {
            w.owner[i] = new int[] {s.hedges.get(i)[2], s.hedges.get(i)[3]};
            w.high[i] = s.hedges.get(i)[4];
        }
        return w;
    }

    // ---- texts

    static List<Token> tokens(String text) {
        List<Token> all = new ArrayList<>();
        int at = 0;
        while (true) {
            while (at < text.length() && "\t\n\r ".indexOf(text.charAt(at)) >= 0) {
                at++;
            }
            if (at == text.length()) {
                all.add(new Token("end", "", at));
                return all;
            }
            int to = at;
            String kind = "none";
            if (text.charAt(at) >= 'a' && text.charAt(at) <= 'z') {
                while (to < text.length() && text.charAt(to) >= 'a' && text.charAt(to) <= 'z') {
                    to++;
                }
                String word = text.substring(at, to);
                kind = WORDS.contains(word) ? word : word.length() <= 8 ? "NAME" : "none";
            } else if (text.charAt(at) >= '0' && text.charAt(at) <= '9') {
                while (to < text.length() && text.charAt(to) >= '0' && text.charAt(to) <= '9') {
                    to++;
                }
                kind = to - at <= 4 ? "INT" : "none";
            } else {
                to++;
                if (";=+-*/<()".indexOf(text.charAt(at)) >= 0) {
                    kind = text.substring(at, to);
                }
            }
            all.add(new Token(kind, text.substring(at, to), at));
            at = to;
        }
    }

    static final String[] GRAMMAR = {
        "TEXT>", "TEXT>TEXT TELL", "TELL>field NAME ;", "TELL>person NAME INT ;",
        "TELL>hedge NAME NAME NAME NAME INT ;", "TELL>heirs NAME NAME NAME ;", "TELL>SORT LAW ;", "TELL>seed INT ;",
        "SORT>grows", "SORT>dies", "SORT>falls", "SORT>costs", "LAW>= IFS E", "IFS>", "IFS>IFS if E < E then E else",
        "E>PART", "E>E + PART", "E>E - PART", "PART>UNIT", "PART>PART * UNIT", "PART>PART / UNIT",
        "UNIT>INT", "UNIT>VAR", "UNIT>( E )", "VAR>high", "VAR>years", "VAR>age", "VAR>faces", "VAR>which",
        "VAR>outer", "VAR>inner", "VAR>clipped", "VAR>gaps"};

    record Item(int rule, int dot, int from) {
    }

    static String[] right(int rule) {
        String r = GRAMMAR[rule].substring(GRAMMAR[rule].indexOf('>') + 1);
        return r.isEmpty() ? new String[0] : r.split(" ");
    }

    static String left(int rule) {
        return GRAMMAR[rule].substring(0, GRAMMAR[rule].indexOf('>'));
    }

    /** The place of the first token with which no text goes on (Earley's way); -1 without. */
    static int syntax(List<Token> tokens) {
        List<List<Item>> sets = new ArrayList<>();
        sets.add(new ArrayList<>(List.of(new Item(0, 0, 0), new Item(1, 0, 0))));
        for (int i = 0;; i++) {
            List<Item> set = sets.get(i);
            Set<Item> seen = new HashSet<>(set);
            // Empty rules end where they begin: gone over until nothing new comes.
            boolean more = true;
            while (more) {
                more = false;
                for (int j = 0; j < set.size(); j++) {
                    Item item = set.get(j);
                    String[] r = right(item.rule);
                    List<Item> fresh = new ArrayList<>();
                    if (item.dot < r.length) {
                        for (int g = 0; g < GRAMMAR.length; g++) {
                            if (left(g).equals(r[item.dot])) {
                                fresh.add(new Item(g, 0, i));
                            }
                        }
                    } else {
                        for (Item back : List.copyOf(sets.get(item.from))) {
                            String[] b = right(back.rule);
                            if (back.dot < b.length && b[back.dot].equals(left(item.rule))) {
                                fresh.add(new Item(back.rule, back.dot + 1, back.from));
                            }
                        }
                    }
                    for (Item f : fresh) {
                        if (seen.add(f)) {
                            set.add(f);
                            more = true;
                        }
                    }
                }
            }
            Token next = tokens.get(i);
            if (next.kind.equals("end")) {
                for (Item item : set) {
                    if (left(item.rule).equals("TEXT") && item.from == 0 && item.dot == right(item.rule).length) {
                        return -1;
                    }
                }
                return next.place;
            }
            List<Item> after = new ArrayList<>();
            for (Item item : set) {
                String[] r = right(item.rule);
                if (item.dot < r.length && r[item.dot].equals(next.kind)) {
                    after.add(new Item(item.rule, item.dot + 1, item.from));
                }
            }
            if (after.isEmpty()) {
                return next.place;
            }
            sets.add(after);
        }
    }

    static int room(List<Token> tokens) {
        Map<String, Integer> most = Map.of("field", 7, "person", 6, "hedge", 10, "heirs", 6);
        Map<String, Integer> seen = new HashMap<>();
        int ifs = 0;
        int open = 0;
        for (int i = 0; i < tokens.size(); i++) {
            Token t = tokens.get(i);
            if (t.kind.equals("end") || t.kind.equals("none")) {
                return -1;
            }
            if (i == 400) {
                return t.place;
            }
            if (most.containsKey(t.kind) && seen.merge(t.kind, 1, Integer::sum) > most.get(t.kind)) {
                return t.place;
            }
            if (t.kind.equals(";")) {
                ifs = 0;
                open = 0;
            }
            if (t.kind.equals("if") && ++ifs > 4) {
                return t.place;
            }
            if (t.kind.equals("(") && ++open > 6) {
                return t.place;
            }
            if (t.kind.equals(")")) {
                open--;
            }
        }
        return -1;
    }

    int read() {
        String text = tape;
        tape = "";
        List<Token> all = tokens(text);
        int s = syntax(all);
        int r = room(all);
        if (s >= 0 && (r < 0 || s <= r)) {
            place = s;
            return 1;
        }
        if (r >= 0) {
            place = r;
            return 2;
        }
        List<int[]> faults = new ArrayList<>();
        Script next = build(all, faults);
        if (!faults.isEmpty()) {
            faults.sort((a, b) -> a[0] != b[0] ? a[0] - b[0] : a[1] - b[1]);
            place = faults.get(0)[0];
            return faults.get(0)[1];
        }
        place = -1;
        script = next;
        now = start(script);
        past.clear();
        told.clear();
        Arrays.fill(slots, null);
        return 0;
    }

    static Script build(List<Token> all, List<int[]> faults) {
        Script s = new Script();
        int at = 0;
        while (!all.get(at).kind.equals("end")) {
            int to = at;
            while (!all.get(to).kind.equals(";")) {
                to++;
            }
            List<Token> tell = all.subList(at, to);
            at = to + 1;
            switch (tell.get(0).kind) {
                case "field" -> {
                    isNew(s, tell.get(1), faults);
                    s.fields.add(tell.get(1).text);
                }
                case "person" -> {
                    isNew(s, tell.get(1), faults);
                    isSmall(tell.get(2), faults);
                    s.people.add(tell.get(1).text);
                    s.ages.add(Integer.parseInt(tell.get(2).text));
                }
                case "hedge" -> {
                    int[] row = new int[5];
                    for (int i = 0; i < 4; i++) {
                        row[i] = known(i < 2 ? s.fields : s.people, tell.get(i + 1), faults);
                    }
                    if (tell.get(1).text.equals(tell.get(2).text)) {
                        faults.add(new int[] {tell.get(2).place, 3});
                    }
                    isSmall(tell.get(5), faults);
                    row[4] = Integer.parseInt(tell.get(5).text);
                    s.hedges.add(row);
                }
                case "heirs" -> {
                    int who = known(s.people, tell.get(1), faults);
                    int[] two = new int[2];
                    for (int i = 0; i < 2; i++) {
                        two[i] = known(s.people, tell.get(i + 2), faults);
                        if (tell.get(i + 2).text.equals(tell.get(1).text)) {
                            faults.add(new int[] {tell.get(i + 2).place, 3});
                        }
                    }
                    s.heirs.put(who, two);
                }
                case "seed" -> s.seed = Integer.parseInt(tell.get(1).text);
                default -> s.laws.put(tell.get(0).kind, List.copyOf(tell.subList(2, tell.size())));
            }
        }
        return s;
    }

    static void isNew(Script s, Token name, List<int[]> faults) {
        if (s.fields.contains(name.text) || s.people.contains(name.text)) {
            faults.add(new int[] {name.place, 3});
        }
    }

    static void isSmall(Token number, List<int[]> faults) {
        if (Integer.parseInt(number.text) > 99) {
            faults.add(new int[] {number.place, 5});
        }
    }

    static int known(List<String> names, Token name, List<int[]> faults) {
        if (!names.contains(name.text)) {
            faults.add(new int[] {name.place, 4});
        }
        return names.indexOf(name.text);
    }

    // ---- laws

    int law(String sort, Map<String, Integer> vars) {
        List<Token> law = script.laws.get(sort);
        if (law == null) {
            return sort.equals("grows") ? 1 : sort.equals("costs") ? vars.getOrDefault("high", 0) : 0;
        }
        try {
            int at = 0;
            while (law.get(at).kind.equals("if")) {
                int less = find(law, at, "<");
                int then = find(law, at, "then");
                int other = find(law, at, "else");
                if (sum(law.subList(at + 1, less), vars) < sum(law.subList(less + 1, then), vars)) {
                    return sum(law.subList(then + 1, other), vars);
                }
                at = other + 1;
            }
            return sum(law.subList(at, law.size()), vars);
        } catch (DividedByZero zero) {
            return 0;
        }
    }

    static int find(List<Token> law, int from, String kind) {
        int at = from;
        while (!law.get(at).kind.equals(kind)) {
            at++;
        }
        return at;
    }

    /** The last sign outside all brackets is the one done last. */
    static int lastSign(List<Token> e, String signs) {
        int open = 0;
        for (int i = e.size() - 1; i >= 0; i--) {
            String k = e.get(i).kind;
            open += k.equals(")") ? 1 : k.equals("(") ? -1 : 0;
            if (open == 0 && k.length() == 1 && signs.contains(k)) {
                return i;
            }
        }
        return -1;
    }

    static int sum(List<Token> e, Map<String, Integer> vars) throws DividedByZero {
        int i = lastSign(e, "+-");
        if (i < 0) {
            i = lastSign(e, "*/");
        }
        if (i >= 0) {
            int a = sum(e.subList(0, i), vars);
            int b = sum(e.subList(i + 1, e.size()), vars);
            switch (e.get(i).kind) {
                case "+": return (int) ((long) a + b);
                case "-": return (int) ((long) a - b);
                case "*": return (int) ((long) a * b);
                default:
                    if (b == 0) {
                        throw new DividedByZero();
                    }
                    return (int) ((long) a / b);
            }
        }
        if (e.get(0).kind.equals("(")) {
            return sum(e.subList(1, e.size() - 1), vars);
        }
        return e.get(0).kind.equals("INT") ? Integer.parseInt(e.get(0).text) : vars.getOrDefault(e.get(0).kind, 0);
    }

    Map<String, Integer> common(World w) {
        Map<String, Integer> v = new HashMap<>();
        v.put("years", w.year);
        int g = 0;
        for (boolean b : w.gap) {
            g += b ? 1 : 0;
        }
        v.put("gaps", g);
        return v;
    }

    int ofHedge(String sort, World w, int h) {
        Map<String, Integer> v = common(w);
        v.put("high", w.high[h]);
        v.put("which", h);
        v.put("outer", w.owner[h][0] < 0 ? 0 : w.age[w.owner[h][0]]);
        v.put("inner", w.owner[h][1] < 0 ? 0 : w.age[w.owner[h][1]]);
        v.put("clipped", w.clipped[h] == null ? w.year : w.year - w.clipped[h]);
        int value = law(sort, v);
        return sort.equals("falls") ? (value > 0 ? 1 : 0) : value < 0 ? 0 : value > 99 ? 99 : value;
    }

    int dies(World w, int p) {
        Map<String, Integer> v = common(w);
        v.put("age", w.age[p]);
        v.put("faces", faces(w, p));
        v.put("which", p);
        int value = law("dies", v);
        return value < 0 ? 0 : value > 100 ? 100 : value;
    }

    static int lot(int n, int seed, int which) {
        long h = seed;
        for (long it : new long[] {155, which}) {
            h = ((h ^ it) * 1103515245L + 12345L) & 0xFFFFFFFFL;
            h = h ^ (h >> 15);
        }
        return (int) ((h >> 1) % n);
    }

    // ---- years

    static int faces(World w, int p) {
        int n = 0;
        for (int[] o : w.owner) {
            n += (o[0] == p ? 1 : 0) + (o[1] == p ? 1 : 0);
        }
        return n;
    }

    void leave(World w, int p) {
        for (int[] o : w.owner) {
            for (int f = 0; f < 2; f++) {
                if (o[f] == p) {
                    int heir = script.heirs.containsKey(p) ? script.heirs.get(p)[f] : -2;
                    if (heir >= 0 && w.alive[heir]) {
                        o[f] = heir;
                    } else if (w.spouse[p] >= 0 && w.alive[w.spouse[p]]) {
                        o[f] = w.spouse[p];
                    } else {
                        o[f] = -2;
                    }
                }
            }
        }
    }

    World dead(World w, int p) {
        World x = w.twin();
        x.alive[p] = false;
        leave(x, p);
        return x;
    }

    static boolean oneHouse(World w, int h) {
        int a = w.owner[h][0];
        int b = w.owner[h][1];
        return a >= 0 && b >= 0 && (a == b || w.spouse[a] == b && w.spouse[b] == a);
    }

    World after(World from, int n, int seed, boolean deaths) {
        World w = from;
        for (int i = 0; i < n; i++) {
            World x = w.twin();
            for (int p = 0; deaths && p < w.alive.length; p++) {
                if (w.alive[p] && lot(100, seed, 8 * w.year + p) < dies(w, p)) {
                    x.alive[p] = false;
                }
            }
            for (int p = 0; p < w.alive.length; p++) {
                if (w.alive[p] && !x.alive[p]) {
                    leave(x, p);
                }
            }
            for (int p = 0; p < w.alive.length; p++) {
                if (x.alive[p] && x.age[p] < 199) {
                    x.age[p]++;
                }
            }
            for (int h = 0; h < w.high.length; h++) {
                if (!w.gap[h]) {
                    x.high[h] = Math.min(99, w.high[h] + ofHedge("grows", w, h));
                    x.gap[h] = ofHedge("falls", w, h) == 1 || oneHouse(x, h);
                }
            }
            x.year++;
            w = x;
        }
        return w;
    }

    // ---- ways

    boolean crossable(World w, int p, int h, int asked) {
        if (w.gap[h]) {
            return true;
        }
        for (int o : w.owner[h]) {
            if (o >= 0 && o != p && o != w.spouse[p] && (asked >> o & 1) == 0) {
                return false;
            }
        }
        return true;
    }

    int open(World w, int p, int from, int asked) {
        Deque<Integer> work = new ArrayDeque<>(List.of(from));
        Set<Integer> seen = new HashSet<>(work);
        while (!work.isEmpty()) {
            int f = work.pop();
            for (int h = 0; h < w.high.length; h++) {
                int[] row = script.hedges.get(h);
                int to = row[0] == f ? row[1] : row[1] == f ? row[0] : -1;
                if (to >= 0 && crossable(w, p, h, asked) && seen.add(to)) {
                    work.push(to);
                }
            }
        }
        int bits = 0;
        for (int f : seen) {
            bits |= 1 << f;
        }
        return bits;
    }

    int asked(World w, int p, int from, int to) {
        for (int size = 0; size <= 5; size++) {
            for (int set = 0; set < 64; set++) {
                boolean fine = Integer.bitCount(set) == size && (set >> p & 1) == 0;
                for (int q = 0; q < 6; q++) {
                    fine &= (set >> q & 1) == 0 || q < w.alive.length && w.alive[q];
                }
                if (fine && (open(w, p, from, set) >> to & 1) == 1) {
                    return set;
                }
            }
        }
        return -2;
    }

    boolean fewer(World w, int p, int from, int to) {
        int before = asked(now, p, from, to);
        int then = asked(w, p, from, to);
        return then >= 0 && before >= 0 && Integer.bitCount(then) < Integer.bitCount(before);
    }

    // ---- marriages

    boolean single(int p) {
        return now.alive[p] && (now.spouse[p] < 0 || !now.alive[now.spouse[p]]);
    }

    /** All partner rows there are, by counting them through; the best one, of alike ones the least row. */
    int[] bestRow(int[] weight) {
        int n = now.alive.length;
        int[] best = null;
        weight[0] = -1;
        int all = (int) Math.pow(n + 1, n);
        for (int code = 0; code < all; code++) {
            int[] row = new int[n];
            int rest = code;
            for (int i = n - 1; i >= 0; i--) {
                row[i] = rest % (n + 1) - 1;
                rest /= n + 1;
            }
            boolean fine = true;
            for (int i = 0; i < n && fine; i++) {
                fine = row[i] < 0 || row[i] != i && row[row[i]] == i && single(i);
            }
            if (fine) {
                int sum = 0;
                for (int h = 0; h < now.high.length; h++) {
                    int a = now.owner[h][0];
                    int b = now.owner[h][1];
                    boolean inPair = a >= 0 && b >= 0 && row[a] >= 0 && (b == a || b == row[a]);
                    sum += !now.gap[h] && inPair ? 1 : 0;
                }
                if (sum > weight[0]) {
                    weight[0] = sum;
                    best = row;
                }
            }
        }
        return best;
    }

    // ---- who died

    int died(int k) {
        int bits = 0;
        for (int p = 0; p < now.alive.length; p++) {
            if (now.alive[p]) {
                World w = dead(now, p);
                boolean all = true;
                for (int[] t : told.subList(0, k)) {
                    all &= (w.owner[t[0]][t[1]] == t[2]) == (t[3] == 1);
                }
                bits |= all ? 1 << p : 0;
            }
        }
        return bits;
    }

    int look(int k) {
        int left = died(k);
        int best = -2;
        int least = 99;
        for (int h = 0; left != 0 && h < now.high.length; h++) {
            for (int f = 0; f < 2; f++) {
                int worst = 0;
                for (int answer = -2; answer < 6; answer++) {
                    int n = 0;
                    for (int p = 0; p < now.alive.length; p++) {
                        n += (left >> p & 1) == 1 && dead(now, p).owner[h][f] == answer ? 1 : 0;
                    }
                    worst = Math.max(worst, n);
                }
                if (worst < least) {
                    least = worst;
                    best = 10 * h + f;
                }
            }
        }
        return best;
    }

    // ---- the face

    boolean isP(int p) {
        return p >= 0 && p < now.alive.length;
    }

    boolean isA(int p) {
        return isP(p) && now.alive[p];
    }

    boolean isH(int h) {
        return h >= 0 && h < now.high.length;
    }

    boolean isF(int f) {
        return f >= 0 && f < script.fields.size();
    }

    static boolean isN(int n) {
        return n >= 0 && n <= 60;
    }

    static boolean two(int what) {
        return what == 0 || what == 1;
    }

    boolean has(int p, int h) {
        return now.owner[h][0] == p || now.owner[h][1] == p;
    }

    void keep() {
        past.push(now);
        now = now.twin();
        if (past.size() > 40) {
            past.removeLast();
        }
    }

    void cut(int h) {
        now.high[h] = 0;
        now.clipped[h] = now.year;
    }

    int due(int p) {
        int sum = 0;
        for (int h = 0; h < now.high.length; h++) {
            for (int o : now.owner[h]) {
                sum += o == p && !now.gap[h] ? ofHedge("costs", now, h) / 2 : 0;
            }
        }
        return sum;
    }

    /** The answer to a call told by its name, booleans as 1 and 0. */
    int call(String name, int a, int b, int c, int d) {
        switch (name) {
            case "back":
                if (a < 0 || a > tape.length()) {
                    return -1;
                }
                tape = tape.substring(0, tape.length() - a);
                return tape.length();
            case "read": return read();
            case "place": return place;
            case "hedge": return isH(a) ? hedge(a, b) : -1;
            case "person": return isP(a) ? person(a, b) : -1;
            case "clip":
                if (!isA(a) || !isH(b) || !has(a, b)) {
                    return 0;
                }
                keep();
                cut(b);
                return 1;
            case "sell":
                if (!isH(a) || !two(b) || !isA(c) || now.owner[a][b] == c) {
                    return 0;
                }
                keep();
                now.owner[a][b] = c;
                return 1;
            case "close":
                if (!isA(a) || !isH(b) || !has(a, b) || !now.gap[b]) {
                    return 0;
                }
                keep();
                now.gap[b] = false;
                cut(b);
                return 1;
            case "marry":
                if (!isP(a) || !isP(b) || a == b || !single(a) || !single(b)) {
                    return 0;
                }
                keep();
                now.spouse[a] = b;
                now.spouse[b] = a;
                return 1;
            case "years":
                if (!isN(a)) {
                    return -1;
                }
                if (a > 0) {
                    keep();
                    now = after(now, a, script.seed, true);
                }
                return now.year;
            case "undo":
                if (past.isEmpty()) {
                    return 0;
                }
                now = past.pop();
                return 1;
            case "tell":
                if (!isH(a) || !two(b) || !isP(c) || told.size() == 20) {
                    return -1;
                }
                told.add(new int[] {a, b, c, d});
                return told.size() - 1;
            case "forget":
                int n = told.size();
                told.clear();
                return n;
            case "hold":
                if (a < 0 || a > 2) {
                    return 0;
                }
                slots[a] = now.twin();
                return 1;
            case "restore":
                if (a < 0 || a > 2 || slots[a] == null) {
                    return 0;
                }
                now = slots[a].twin();
                past.clear();
                return 1;
            case "count": return count(a);
            default: return wouldBe(name, a, b, c, d);
        }
    }

    int hedge(int h, int what) {
        switch (what) {
            case 0: return script.hedges.get(h)[0];
            case 1: return script.hedges.get(h)[1];
            case 2: return now.owner[h][0];
            case 3: return now.owner[h][1];
            case 4: return now.high[h];
            case 5: return now.gap[h] ? 1 : 0;
            case 6: return now.clipped[h] == null ? now.year : now.year - now.clipped[h];
            case 7: return ofHedge("grows", now, h);
            case 8: return ofHedge("falls", now, h);
            case 9: return ofHedge("costs", now, h);
            default: return -1;
        }
    }

    int person(int p, int what) {
        switch (what) {
            case 0: return now.age[p];
            case 1: return now.alive[p] ? 1 : 0;
            case 2: return now.spouse[p];
            case 3: return script.heirs.containsKey(p) ? script.heirs.get(p)[0] : -2;
            case 4: return script.heirs.containsKey(p) ? script.heirs.get(p)[1] : -2;
            case 5: return faces(now, p);
            case 6: return dies(now, p);
            default: return -1;
        }
    }

    int count(int what) {
        int alive = 0;
        int married = 0;
        int ages = 0;
        int dues = 0;
        for (int p = 0; p < now.alive.length; p++) {
            alive |= now.alive[p] ? 1 << p : 0;
            married |= now.alive[p] && !single(p) ? 1 << p : 0;
            ages += now.alive[p] ? now.age[p] : 0;
            dues += due(p);
        }
        int gaps = 0;
        int high = 0;
        int clipped = 0;
        for (int h = 0; h < now.high.length; h++) {
            gaps |= now.gap[h] ? 1 << h : 0;
            high += now.gap[h] ? 0 : now.high[h];
            clipped |= now.clipped[h] != null ? 1 << h : 0;
        }
        int held = 0;
        for (World w : slots) {
            held += w != null ? 1 : 0;
        }
        int[] all = {script.fields.size(), now.alive.length, now.high.length, now.year, alive, married, gaps,
            faces(now, -2), tape.length(), past.size(), told.size(), held, high, dues, clipped, ages,
            Integer.bitCount(alive), Integer.bitCount(gaps)};
        return what >= 0 && what < all.length ? all[what] : -1;
    }

    int wouldBe(String name, int a, int b, int c, int d) {
        switch (name) {
            case "crosses": return isA(a) && isH(b) ? crossable(now, a, b, 0) ? 1 : 0 : -1;
            case "ask":
                if (!isA(a) || !isF(b) || !isF(c) || !two(d)) {
                    return -1;
                }
                int set = asked(now, a, b, c);
                return set < 0 ? -2 : d == 0 ? Integer.bitCount(set) : set;
            case "open": return isA(a) && isF(b) ? open(now, a, b, 0) : -1;
            case "shut": return isA(a) ? shut(a) : -1;
            case "matched":
                if (a != -1 && !isP(a)) {
                    return -1;
                }
                int[] weight = new int[1];
                int[] row = bestRow(weight);
                return a == -1 ? weight[0] : row[a] < 0 ? -2 : row[a];
            case "will": return isA(a) && isA(b) && a != b ? faces(dead(now, a), b) - faces(now, b) : -1;
            case "highest": return isN(a) && two(b) ? highest(after(now, a, script.seed, false), b) : -1;
            case "due": return isP(a) ? due(a) : -1;
            case "buy": return isA(a) && isF(b) && isF(c) ? buy(a, b, c) : -1;
            case "gates": return isA(a) && isF(b) && isF(c) ? gates(a, b, c) : -1;
            case "line":
                if (!isH(a) || !two(b) || c < 0 || c > 6) {
                    return -1;
                }
                World w = now;
                for (int i = 0; i < c && w.owner[a][b] >= 0; i++) {
                    w = dead(w, w.owner[a][b]);
                }
                return w.owner[a][b];
            case "eldest": return two(a) ? top(a, now.age) : -1;
            case "most":
                int[] faces = new int[now.alive.length];
                for (int p = 0; p < faces.length; p++) {
                    faces[p] = faces(now, p);
                }
                return two(a) ? top(a, faces) : -1;
            case "ones": return ones();
            case "neighbours": return isP(a) ? neighbours(a) : -1;
            case "between": return isF(a) && isF(b) ? between(a, b) : -1;
            case "gaps": return isN(a) ? common(after(now, a, script.seed, false)).get("gaps") : -1;
            case "whose": return isH(a) && two(b) && isN(c) ? after(now, c, script.seed, true).owner[a][b] : -1;
            case "then":
                if (!isH(a) || !isN(b) || !two(c)) {
                    return -1;
                }
                World x = after(now, b, script.seed, true);
                return c == 0 ? x.high[a] : x.gap[a] ? 1 : 0;
            case "aliveIn": return isN(a) ? bits(after(now, a, script.seed, true).alive) : -1;
            case "year":
                if (!isP(a) || !isN(b) || c < 1 || c > 20) {
                    return -1;
                }
                int times = 0;
                for (int i = 0; i < c; i++) {
                    times += after(now, b, script.seed + i, true).alive[a] ? 1 : 0;
                }
                return times;
            case "died":
                if (a < 0 || a > told.size() || !two(b)) {
                    return -1;
                }
                return b == 0 ? Integer.bitCount(died(a)) : died(a);
            case "look": return a < 0 || a > told.size() ? -1 : look(a);
            default: throw new IllegalArgumentException(name);
        }
    }

    static int bits(boolean[] row) {
        int bits = 0;
        for (int i = 0; i < row.length; i++) {
            bits |= row[i] ? 1 << i : 0;
        }
        return bits;
    }

    int shut(int p) {
        int bits = 0;
        for (int f = 0; f < script.fields.size(); f++) {
            bits |= Integer.bitCount(open(now, p, f, 0)) == 1 ? 1 << f : 0;
        }
        return bits;
    }

    static int highest(World w, int what) {
        int best = -2;
        for (int h = w.high.length - 1; h >= 0; h--) {
            best = best < 0 || w.high[h] >= w.high[best] ? h : best;
        }
        return best < 0 || what == 0 ? best : w.high[best];
    }

    int top(int what, int[] of) {
        int best = -2;
        for (int p = of.length - 1; p >= 0; p--) {
            best = now.alive[p] && (best < 0 || of[p] >= of[best]) ? p : best;
        }
        return best < 0 || what == 0 ? best : of[best];
    }

    int buy(int p, int from, int to) {
        for (int h = 0; h < now.high.length; h++) {
            for (int f = 0; f < 2; f++) {
                World w = now.twin();
                w.owner[h][f] = p;
                if (now.owner[h][f] != p && fewer(w, p, from, to)) {
                    return 10 * h + f;
                }
            }
        }
        return -2;
    }

    int gates(int p, int from, int to) {
        int bits = 0;
        for (int h = 0; h < now.high.length; h++) {
            World w = now.twin();
            w.gap[h] = true;
            bits |= !now.gap[h] && fewer(w, p, from, to) ? 1 << h : 0;
        }
        return bits;
    }

    int ones() {
        int bits = 0;
        for (int h = 0; h < now.high.length; h++) {
            bits |= !now.gap[h] && oneHouse(now, h) ? 1 << h : 0;
        }
        return bits;
    }

    int neighbours(int p) {
        int bits = 0;
        for (int h = 0; h < now.high.length; h++) {
            for (int f = 0; f < 2; f++) {
                int o = now.owner[h][1 - f];
                bits |= !now.gap[h] && now.owner[h][f] == p && o >= 0 && o != p ? 1 << o : 0;
            }
        }
        return bits;
    }

    int between(int f, int g) {
        int bits = 0;
        for (int h = 0; h < now.high.length; h++) {
            int[] row = script.hedges.get(h);
            bits |= row[0] == f && row[1] == g || row[0] == g && row[1] == f ? 1 << h : 0;
        }
        return bits;
    }
}
