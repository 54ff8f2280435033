import java.util.ArrayList;
import java.util.List;
import java.util.Random;

/** Many runs of calls, right and wrong ones, held against the oracle: nothing may differ, nothing may throw. */
public final class OracleTest {
    static final String[] CALLS = {"hedge", "person", "clip", "sell", "close", "marry", "years", "undo", "crosses",
        "ask", "open", "shut", "matched", "will", "highest", "due", "buy", "gates", "line", "eldest", "ones",
        "neighbours", "between", "gaps", "most", "whose", "then", "aliveIn", "year", "tell", "forget", "died", "look",
        "hold", "restore", "count", "feed", "back", "read", "place", "sell", "marry", "tell", "years", "clip", "close"};
    static final String[] VARS = {"high", "years", "age", "faces", "which", "outer", "inner", "clipped", "gaps"};
    static final String[] NAMES = {"a", "b", "c", "d", "e", "f", "g", "h", "abcdefgh", "lea", "fields", "i", "xy", "zz"};
    static final String[] SPOILERS = {"field", "person", "hedge", "heirs", "grows", "dies", "seed", "if", "then", "else",
        "high", "gaps", ";", "=", "+", "-", "*", "/", "<", "(", ")", "a", "b", "zebra", "abcdefgh", "abcdefghi", "0", "99",
        "100", "9999", "12345", "#", "A", "\u0000", "\u00e9", "_", ">"};

    public static void main(String[] args) {
        Random random = new Random(20261118);
        for (int run = 0; run < 500; run++) {
            walk(random, run);
        }
        for (int i = 0; i < 2500; i++) {
            readOne(random, spoiled(random, text(random)));
        }
        for (int i = 0; i < 60; i++) {
            readOne(random, longText(random));
        }
        for (int i = 0; i < 300; i++) {
            noise(random);
        }
        Check.end("OracleTest");
    }

    static void walk(Random random, int run) {
        FenceSides x = new FenceSides();
        Oracle o = new Oracle();
        String text = text(random);
        // Those that put a text count too: an object is used for 512 calls at most.
        int calls = 0;
        if (random.nextInt(20) != 0) {
            calls += Check.put(x, text) + 1;
            o.tape = text;
            Check.due("run " + run + " read <" + text + ">", x.read(), o.read());
        }
        for (int i = 0; i < 300 && calls < 350; i++) {
            calls++;
            String name = CALLS[random.nextInt(CALLS.length)];
            if (name.equals("read") && random.nextInt(3) != 0) {
                text = random.nextInt(4) == 0 ? spoiled(random, text(random)) : text(random);
                calls += putAnew(x, o, text);
            }
            if (name.equals("feed")) {
                feed(random, x, o);
                continue;
            }
            int a = number(random, name, 0);
            int b = number(random, name, 1);
            int c = number(random, name, 2);
            int d = random.nextInt(20) == 0 && name.equals("ask") ? 2 : random.nextInt(2);
            String told = "run " + run + ", call " + i + " " + name + "(" + a + ", " + b + ", " + c + ", " + d + ") of <" + text + ">";
            Check.due(told, call(x, name, a, b, c, d), o.call(name, a, b, c, d));
        }
        for (int what = -1; what <= 18; what++) {
            Check.due("run " + run + " count(" + what + ")", x.count(what), o.count(what));
        }
    }

    static int putAnew(FenceSides x, Oracle o, String text) {
        Check.due("all goes", x.back(o.tape.length()), 0);
        o.tape = text;
        return 1 + Check.put(x, text);
    }

    static void feed(Random random, FenceSides x, Oracle o) {
        int[] n = new int[5];
        StringBuilder bytes = new StringBuilder();
        for (int i = 0; i < 5; i++) {
            n[i] = random.nextBoolean() ? random.nextInt() : 0x20202020;
            for (int shift = 24; shift >= 0; shift -= 8) {
                bytes.append((char) (n[i] >>> shift & 255));
            }
        }
        boolean fits = o.tape.length() + 20 <= 2000;
        o.tape += fits ? bytes : "";
        Check.due("feed", x.feed(n[0], n[1], n[2], n[3], n[4]), fits ? o.tape.length() : -1);
    }

    static int number(Random random, String name, int index) {
        int odd = random.nextInt(60);
        if (odd == 0) {
            return new int[] {Integer.MIN_VALUE, Integer.MAX_VALUE, -3, 100, 64, 1 << 30}[random.nextInt(6)];
        }
        if (odd < 5) {
            return random.nextInt(25) - 3;
        }
        boolean span = index == 0 && (name.equals("years") || name.equals("highest") || name.equals("gaps") || name.equals("aliveIn"))
            || index == 1 && (name.equals("then") || name.equals("year")) || index == 2 && name.equals("whose");
        if (span) {
            return random.nextInt(3) == 0 ? random.nextInt(62) : random.nextInt(6);
        }
        if (name.equals("count")) {
            return random.nextInt(20) - 1;
        }
        if (name.equals("matched")) {
            return random.nextInt(6) - 1;
        }
        boolean what = index == 1 && (name.equals("hedge") || name.equals("person"));
        boolean face = index == 1 && (name.equals("sell") || name.equals("line") || name.equals("whose") || name.equals("tell") || name.equals("highest") || name.equals("died"));
        boolean pick = index == 0 && (name.equals("eldest") || name.equals("most")) || index == 2 && name.equals("then");
        return what ? random.nextInt(11) : face || pick ? random.nextInt(2) : random.nextInt(6);
    }

    static long call(FenceSides x, String name, int a, int b, int c, int d) {
        switch (name) {
            case "back": return x.back(a);
            case "read": return x.read();
            case "place": return x.place();
            case "hedge": return x.hedge(a, b);
            case "person": return x.person(a, b);
            case "clip": return x.clip(a, b) ? 1 : 0;
            case "sell": return x.sell(a, b, c) ? 1 : 0;
            case "close": return x.close(a, b) ? 1 : 0;
            case "marry": return x.marry(a, b) ? 1 : 0;
            case "years": return x.years(a);
            case "undo": return x.undo() ? 1 : 0;
            case "crosses": return x.crosses(a, b);
            case "ask": return x.ask(a, b, c, d);
            case "open": return x.open(a, b);
            case "shut": return x.shut(a);
            case "matched": return x.matched(a);
            case "will": return x.will(a, b);
            case "highest": return x.highest(a, b);
            case "due": return x.due(a);
            case "buy": return x.buy(a, b, c);
            case "gates": return x.gates(a, b, c);
            case "line": return x.line(a, b, c);
            case "eldest": return x.eldest(a);
            case "ones": return x.ones();
            case "neighbours": return x.neighbours(a);
            case "between": return x.between(a, b);
            case "gaps": return x.gaps(a);
            case "most": return x.most(a);
            case "whose": return x.whose(a, b, c);
            case "then": return x.then(a, b, c);
            case "aliveIn": return x.aliveIn(a);
            case "year": return x.year(a, b, c);
            case "tell": return x.tell(a, b, c, d == 1);
            case "forget": return x.forget();
            case "died": return x.died(a, b);
            case "look": return x.look(a);
            case "hold": return x.hold(a) ? 1 : 0;
            case "restore": return x.restore(a) ? 1 : 0;
            case "count": return x.count(a);
            default: throw new IllegalArgumentException(name);
        }
    }

    // ---- texts

    static String text(Random random) {
        List<String> tells = new ArrayList<>();
        int fields = random.nextInt(6) == 0 ? random.nextInt(8) : 2 + random.nextInt(6);
        int people = random.nextInt(6) == 0 ? random.nextInt(7) : 2 + random.nextInt(5);
        for (int i = 0; i < fields; i++) {
            tells.add("field f" + letters(i) + ";");
        }
        for (int i = 0; i < people; i++) {
            tells.add("person p" + letters(i) + " " + random.nextInt(100) + ";");
        }
        int hedges = fields > 1 && people > 0 ? random.nextInt(11) : 0;
        for (int i = 0; i < hedges; i++) {
            int from = random.nextInt(fields);
            int to = (from + 1 + random.nextInt(fields - 1)) % fields;
            tells.add("hedge f" + letters(from) + " f" + letters(to) + " p" + letters(random.nextInt(people)) + " p"
                + letters(random.nextInt(people)) + " " + random.nextInt(60) + ";");
        }
        int heirs = people > 1 ? random.nextInt(7) : 0;
        for (int i = 0; i < heirs; i++) {
            int who = random.nextInt(people);
            tells.add("heirs p" + letters(who) + " p" + letters((who + 1 + random.nextInt(people - 1)) % people) + " p"
                + letters((who + 1 + random.nextInt(people - 1)) % people) + ";");
        }
        laws(random, tells);
        if (random.nextBoolean()) {
            tells.add("seed " + random.nextInt(10000) + ";");
        }
        return String.join(random.nextBoolean() ? " " : "\n\t", tells);
    }

    static String letters(int i) {
        return "" + (char) ('a' + i) + (char) ('z' - i);
    }

    static void laws(Random random, List<String> tells) {
        String[] mild = {"grows = 2;", "grows = high / 7 + 1 - gaps;", "grows = clipped;", "grows = 60 / (years - 3);",
            "dies = age / 20;", "dies = if age < 60 then 1 else if faces < 3 then 10 else 20;", "dies = age - 50 + which;",
            "dies = 3;", "falls = high - 40;", "falls = if outer < inner then high - 70 else 0 - 1;",
            "falls = clipped - 9;", "costs = high / 3 + which;", "costs = outer * inner;", "costs = 7;"};
        for (int i = random.nextInt(7); i > 0; i--) {
            tells.add(mild[random.nextInt(mild.length)]);
        }
        if (random.nextInt(3) == 0) {
            tells.add(new String[] {"grows", "dies", "falls", "costs"}[random.nextInt(4)] + law(random));
        }
    }

    static String law(Random random) {
        StringBuilder law = new StringBuilder(" = ");
        for (int i = random.nextInt(4); i > 0; i--) {
            law.append("if ").append(sum(random, 2)).append('<').append(sum(random, 1)).append(" then ").append(sum(random, 1)).append(" else ");
        }
        return law.append(sum(random, 3)).append(';').toString();
    }

    static String sum(Random random, int depth) {
        StringBuilder sum = new StringBuilder();
        for (int i = random.nextInt(3); i >= 0; i--) {
            int sort = random.nextInt(depth > 0 ? 5 : 4);
            sum.append(sort == 4 ? "(" + sum(random, depth - 1) + ")" : sort < 2 ? "" + random.nextInt(random.nextInt(3) == 0 ? 10000 : 12)
                : VARS[random.nextInt(VARS.length)]);
            sum.append(i > 0 ? "+-*/".charAt(random.nextInt(4)) : ' ');
        }
        return sum.toString();
    }

    static String spoiled(Random random, String text) {
        StringBuilder spoiled = new StringBuilder(text);
        for (int i = random.nextInt(4); i >= 0 && spoiled.length() > 0; i--) {
            int at = random.nextInt(spoiled.length());
            String what = SPOILERS[random.nextInt(SPOILERS.length)];
            switch (random.nextInt(5)) {
                case 0: spoiled.deleteCharAt(at); break;
                case 1: spoiled.insert(at, what); break;
                case 2: spoiled.insert(spoiled.indexOf(";", at) + 1, " " + name(random)); break;
                case 3: spoiled.setLength(at); break;
                default: spoiled.replace(at, Math.min(spoiled.length(), at + 1 + random.nextInt(3)), " " + what + " "); break;
            }
        }
        return spoiled.toString();
    }

    static String name(Random random) {
        String a = NAMES[random.nextInt(NAMES.length)];
        String b = random.nextBoolean() ? "paz" : "pby";
        String f = random.nextBoolean() ? "faz" : "fby";
        switch (random.nextInt(5)) {
            case 0: return "field " + a + ";";
            case 1: return "person " + a + " " + random.nextInt(105) + ";";
            case 2: return "heirs " + b + " paz pby;";
            case 3: return "hedge faz " + f + " paz " + b + " " + random.nextInt(105) + ";";
            default: return "hedge " + a + " " + f + " " + b + " " + a + " 3;";
        }
    }

    /** Around the 400th token, the 4th if, the 6th bracket, the last one of a sort. */
    static String longText(Random random) {
        StringBuilder text = new StringBuilder();
        switch (random.nextInt(4)) {
            case 0:
                for (int i = 98 + random.nextInt(3) + random.nextInt(2); i > 0; i--) {
                    text.append("dies=1;");
                }
                return text.append(new String[] {"", "dies", "dies=", "dies=1", "seed 1;", "#", "dies=1 1", "field"}[random.nextInt(8)]).toString();
            case 1:
                text.append("costs=");
                for (int i = 3 + random.nextInt(3); i > 0; i--) {
                    text.append("if(high)<age then(1)else ");
                }
                return text.append("0;").toString();
            case 2:
                int deep = 5 + random.nextInt(3);
                text.append("falls=(1)+").append("(".repeat(deep)).append("high").append(")".repeat(deep));
                return text.append(random.nextBoolean() ? ";" : "*(2);").toString();
            default:
                String one = new String[] {"heirs a b c;", "hedge x y a b 1;"}[random.nextInt(2)];
                text.append("field x;field y;person a 1;person b 2;person c 3;");
                return text.append(one.repeat(6 + random.nextInt(6))).append(random.nextBoolean() ? "" : "field x;").toString();
        }
    }

    static void readOne(Random random, String text) {
        if (text.length() > 2000) {
            return;
        }
        FenceSides x = new FenceSides();
        Oracle o = new Oracle();
        Check.put(x, text);
        o.tape = text;
        Check.due("read of <" + text + ">", x.read(), o.read());
        Check.due("place in <" + text + ">", x.place(), o.place);
        for (int what = 0; what < 18; what++) {
            Check.due("count(" + what + ") after <" + text + ">", x.count(what), o.count(what));
        }
    }

    /** Bytes of all kinds, signs and words without a grammar. */
    static void noise(Random random) {
        StringBuilder text = new StringBuilder();
        int most = random.nextInt(300);
        while (text.length() < most) {
            text.append(SPOILERS[random.nextInt(SPOILERS.length)]).append(random.nextBoolean() ? " " : "");
        }
        readOne(random, text.toString());
    }
}
