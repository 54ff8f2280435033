/** Texts: tokens, grammar, limits, faults and their places, and what laws come to. */
public final class FaultsTest {
    static final String TWO = "field f;field g;person a 1;person b 2;";

    public static void main(String[] args) {
        tokens();
        syntax();
        room();
        lastToken();
        sorts();
        twice();
        names();
        wrong();
        first();
        laws();
        vars();
        Check.end("FaultsTest");
    }

    static void tokens() {
        Check.fault("field abcdefgh;", 0, -1);
        Check.fault("field abcdefghi;", 1, 6);
        Check.fault("field\t\n\r lea\t;\n", 0, -1);
        Check.fault("field\u000blea;", 1, 5);
        Check.fault("field Lea;", 1, 6);
        Check.fault("field l\u00e9a;", 1, 7);
        Check.fault("fieldlea;", 1, 0);
        Check.fault("person p12;person q 3;", 0, -1);
        Check.fault("person p 0012;", 0, -1);
        Check.fault("person p 00012;", 1, 9);
        Check.fault("seed 9999;", 0, -1);
        Check.fault("seed 10000;", 1, 5);
        Check.fault("field if;", 1, 6);
        Check.fault("field gaps;", 1, 6);
        Check.fault("field seed;", 1, 6);
        Check.fault("field fields;field iff;", 0, -1);
        Check.fault("field \u0000;", 1, 6);
    }

    static void syntax() {
        Check.fault("", 0, -1);
        Check.fault("   ", 0, -1);
        Check.fault("field", 1, 5);
        Check.fault("field f", 1, 7);
        Check.fault("field f  ", 1, 9);
        Check.fault("field f;;", 1, 8);
        Check.fault(";", 1, 0);
        Check.fault("a", 1, 0);
        Check.fault("field 1;", 1, 6);
        Check.fault("person p;", 1, 8);
        Check.fault("person p -1;", 1, 9);
        Check.fault("hedge f g a 1;", 1, 12);
        Check.fault("heirs a b;", 1, 9);
        Check.fault("heirs a b c d;", 1, 12);
        Check.fault("seed ;", 1, 5);
        Check.fault("grows 1;", 1, 6);
        Check.fault("grows = ;", 1, 8);
        Check.fault("grows = -1;", 1, 8);
        Check.fault("grows = lea;", 1, 8);
        Check.fault("grows = 1 2;", 1, 10);
        Check.fault("grows = (1;", 1, 10);
        Check.fault("grows = 1);", 1, 9);
        Check.fault("grows = if 1 then 2 else 3;", 1, 13);
        Check.fault("grows = if 1 < 2 else 3;", 1, 17);
        Check.fault("grows = if 1 < 2 < 3 then 3;", 1, 17);
        Check.fault("grows = if 1 < 2 then 3;", 1, 23);
        Check.fault("grows = if 1 < 2 then if 1 < 2 then 3 else 4 else 5;", 1, 22);
        Check.fault("grows = (if 1 < 2 then 3 else 4);", 1, 9);
        Check.fault("grows = if 1 < 2 then 3 else if 2 < 1 then 4 else 5;", 0, -1);
        Check.fault("grows = 1 < 2;", 1, 10);
        Check.fault("falls = 1 + * 2;", 1, 12);
    }

    static void room() {
        String hundred = "dies=1;".repeat(100);
        Check.fault(hundred, 0, -1);
        Check.fault(hundred + "seed 1;", 2, 700);
        Check.fault(hundred + "#", 1, 700);
        Check.fault(hundred + "+", 1, 700);
        Check.fault("dies=1;".repeat(99) + "dies=1+2;", 2, 693 + 7);
        Check.fault("dies=1;".repeat(99) + "dies=1 2;", 1, 693 + 7);
        Check.fault("dies=1;".repeat(99) + "dies=1+", 1, 693 + 7);
        String ifs = "if 1<2 then 3 else ";
        Check.fault("dies=" + ifs.repeat(4) + "5;", 0, -1);
        Check.fault("dies=" + ifs.repeat(5) + "5;", 2, 5 + 4 * ifs.length());
        Check.fault("dies=" + ifs.repeat(4) + "5;dies=" + ifs.repeat(4) + "5;", 0, -1);
        Check.fault("dies=((((((1))))));", 0, -1);
        Check.fault("dies=(((((((1)))))));", 2, 11);
        Check.fault("dies=((((((1))))))+((((((2))))));", 0, -1);
        Check.fault("dies=((((((1+(2)))))));", 2, 13);
        Check.fault("dies=(((((1)+((2))))));", 0, -1);
    }

    /** The 401st token at every place of every sort: ROOM, and SYNTAX where it does not go on. */
    static void lastToken() {
        String[] tells = {"field h ;", "person p 7 ;", "hedge f g a b 7 ;", "heirs a b c ;", "seed 7 ;",
            "grows = if ( high ) < 2 then 3 * 4 else 5 + 6 / 7 ;", "costs = if 1 < 2 then 3 else if 1 < 2 then ( 1 - 1 ) else 0 ;"};
        String ahead = "field f;field g;person a 1;person b 1;person c 1;";
        for (String tell : tells) {
            String[] parts = tell.split(" ");
            for (int at = 0; at < parts.length; at++) {
                int fill = 400 - at - 18;
                int threes = fill % 4 == 0 ? 0 : 4 - fill % 4;
                String text = ahead + "seed 1;".repeat(threes) + "dies=1;".repeat((fill - 3 * threes) / 4);
                int place = text.length();
                for (int i = 0; i < at; i++) {
                    place += parts[i].length() + 1;
                }
                Check.fault(text + tell, 2, place);
                Check.fault(text + tell.substring(0, place - text.length()) + "#", 1, place);
                Check.fault(text + tell.substring(0, place - text.length()), at == 0 ? 0 : 1, at == 0 ? -1 : place);
            }
        }
        for (String tell : tells) {
            String[] parts = tell.split(" ");
            int place = 0;
            for (String part : parts) {
                Check.fault(ahead + tell.substring(0, place) + "? " + tell.substring(place), 1, ahead.length() + place);
                Check.fault(ahead + tell.substring(0, place) + "heirs " + tell.substring(place), 1,
                    ahead.length() + (place == 0 ? 6 : place));
                place += part.length() + 1;
            }
        }
        String six = "((((((1))))))";
        Check.fault("dies=if " + six + "<" + six + " then " + six + " else " + six + ";", 0, -1);
        Check.fault("dies=if (" + six + ")<1 then 1 else 1;", 2, 14);
        Check.fault("dies=if 1<(" + six + ") then 1 else 1;", 2, 16);
        Check.fault("dies=if 1<1 then (" + six + ") else 1;", 2, 23);
        Check.fault("dies=if 1<1 then 1 else (" + six + ");", 2, 30);
    }

    static void sorts() {
        StringBuilder text = new StringBuilder();
        for (int i = 0; i < 7; i++) {
            text.append("field f").append((char) ('a' + i)).append(';');
        }
        Check.fault(text.toString(), 0, -1);
        Check.fault(text + "field", 2, text.length());
        Check.fault(text + " field fa;", 2, text.length() + 1);
        int fields = text.length();
        for (int i = 0; i < 6; i++) {
            text.append("person p").append((char) ('a' + i)).append(" 9;");
        }
        Check.fault(text.toString(), 0, -1);
        Check.fault(text + "person 1", 2, text.length());
        Check.due("seven fields", Check.of(text.toString()).count(0), 7);
        Check.due("six people", Check.of(text.toString()).count(1), 6);
        String hedge = "hedge fa fb pa pb 1;";
        Check.fault(text + hedge.repeat(10), 0, -1);
        Check.fault(text + hedge.repeat(11), 2, text.length() + 10 * hedge.length());
        String heirs = "heirs pa pb pc;";
        Check.fault(text + heirs.repeat(6), 0, -1);
        Check.fault(text + heirs.repeat(7), 2, text.length() + 6 * heirs.length());
        Check.fault(text.substring(0, fields) + "hedge fa fa fa fa 100;field x;", 2, fields + 22);
        Check.due("ten hedges", Check.of(text + hedge.repeat(10)).count(2), 10);
    }

    static void twice() {
        Check.fault("field a;field a;", 3, 14);
        Check.fault("field a;person a 1;", 3, 15);
        Check.fault("person a 1;field a;", 3, 17);
        Check.fault("person a 1;person a 2;", 3, 18);
        Check.fault(TWO + "hedge f f a b 1;", 3, TWO.length() + 8);
        Check.fault(TWO + "hedge f g a a 1;", 0, -1);
        Check.fault(TWO + "heirs a a b;", 3, TWO.length() + 8);
        Check.fault(TWO + "heirs a b a;", 3, TWO.length() + 10);
        Check.fault(TWO + "heirs a b b;", 0, -1);
    }

    static void names() {
        Check.fault(TWO + "hedge x g a b 1;", 4, TWO.length() + 6);
        Check.fault(TWO + "hedge f x a b 1;", 4, TWO.length() + 8);
        Check.fault(TWO + "hedge f g x b 1;", 4, TWO.length() + 10);
        Check.fault(TWO + "hedge f g a x 1;", 4, TWO.length() + 12);
        Check.fault(TWO + "hedge a g a b 1;", 4, TWO.length() + 6);
        Check.fault(TWO + "hedge f g f b 1;", 4, TWO.length() + 10);
        Check.fault(TWO + "heirs x a b;", 4, TWO.length() + 6);
        Check.fault(TWO + "heirs a x b;", 4, TWO.length() + 8);
        Check.fault(TWO + "heirs a b g;", 4, TWO.length() + 10);
        Check.fault("field f;person a 1;hedge f g a a 1;field g;", 4, 27);
        Check.fault("hedge x x a a 1;", 4, 6);
        Check.fault("heirs a a a;person a 1;", 4, 6);
    }

    static void wrong() {
        Check.fault("person a 99;", 0, -1);
        Check.fault("person a 100;", 5, 9);
        Check.fault(TWO + "hedge f g a b 99;", 0, -1);
        Check.fault(TWO + "hedge f g a b 0100;", 5, TWO.length() + 14);
        Check.fault("grows = 9999;", 0, -1);
    }

    static void first() {
        Check.fault("person a 100;person a 1;", 5, 9);
        Check.fault("person a 100;field", 1, 18);
        Check.fault(TWO + "hedge f f x x 100;", 3, TWO.length() + 8);
        Check.fault(TWO + "hedge x x x x 100;", 4, TWO.length() + 6);
        Check.fault(TWO + "heirs x x x;field f;", 4, TWO.length() + 6);
        Check.fault(TWO + "hedge f f a b 1;dies=(((((((1)))))));", 2, TWO.length() + 16 + 11);
    }

    /** What a COSTS law comes to, of one HEDGE 10 high. */
    static int costs(String law) {
        return Check.of(TWO + "hedge f g a b 10;costs = " + law + ";").hedge(0, 9);
    }

    static void laws() {
        Check.due("left to right", costs("20 - 5 - 3"), 12);
        Check.due("times ahead of plus", costs("2 + 3 * 4"), 14);
        Check.due("left to right, times and by", costs("7 / 2 * 2"), 6);
        Check.due("brackets", costs("(2 + 3) * 4 - ((1))"), 19);
        Check.due("rounded towards 0", costs("50 + (0 - 7) / 2"), 47);
        Check.due("divided by 0", costs("5 + 1 / (high - 10)"), 0);
        Check.due("divided by 0 and times 0", costs("5 + 0 * (1 / 0)"), 0);
        Check.due("divided by 0 in an if", costs("if 1 / 0 < 5 then 3 else 4"), 0);
        Check.due("divided by 0 behind an if that holds", costs("if 1 < 2 then 3 else 1 / 0"), 3);
        Check.due("divided by 0 in one that does not", costs("if 2 < 1 then 1 / 0 else 4"), 4);
        Check.due("in a later if", costs("if 1 < 2 then 3 else if 1 / 0 < 1 then 4 else 5"), 3);
        Check.due("the first if that holds", costs("if 2 < 1 then 1 else if 1 < 2 then 2 else if 1 < 2 then 3 else 4"), 2);
        Check.due("none holds", costs("if 2 < 1 then 1 else if 2 < 2 then 2 else 4"), 4);
        Check.due("less, not alike", costs("if high < 10 then 1 else 2"), 2);
        Check.due("32 bits that wrap", costs("9999 * 9999 * 9999 / 9999 / 100000 + 90".replace("100000", "9999")),
            Math.max(0, Math.min(99, 9999 * 9999 * 9999 / 9999 / 9999 + 90)));
        String least = "(0 - 2048 * 1024 * 1024)";
        Check.due("the least by -1 wraps", costs("if " + least + " / (0 - 1) < 0 then 7 else 8"), 7);
        Check.due("held to 99", costs("9999"), 99);
        Check.due("held to 0", costs("0 - 9999"), 0);
        Check.due("the last law told", Check.of(TWO + "hedge f g a b 10;costs=1;costs=if 1<2 then 2 else 3;costs=4;").hedge(0, 9), 4);
        Check.due("deep", costs("1+2*(1+2*(1+2*(1+2*(1+1*(1+1*2)))))"), 79);
    }

    static void vars() {
        String text = "field f;field g;person a 40;person b 50;hedge f g a b 10;hedge f g b a 20;hedge f g b b 1;";
        String[] vars = {"high", "years", "age", "faces", "which", "outer", "inner", "clipped", "gaps"};
        int[] ofHedge = {22, 2, 0, 0, 1, 52, 42, 2, 1};
        int[] ofPerson = {0, 2, 52, 4, 1, 0, 0, 0, 1};
        for (int i = 0; i < vars.length; i++) {
            FenceSides x = Check.of(text + "costs = " + vars[i] + ";dies = if years < 2 then 0 else " + vars[i] + ";");
            x.years(2);
            Check.due("COSTS by " + vars[i], x.hedge(1, 9), ofHedge[i]);
            Check.due("DIES by " + vars[i], x.person(1, 6), ofPerson[i]);
            FenceSides y = Check.of(text + "grows = if years < 2 then 1 else " + vars[i] + ";falls = " + vars[i] + " - " + ofHedge[i] + " + 1 - 2 / years;");
            y.years(2);
            Check.due("GROWS by " + vars[i], y.hedge(1, 7), ofHedge[i]);
        }
        FenceSides z = Check.of("field f;field g;person a 40;person b 50;hedge f g a b 10;costs = outer + 5;dies = if age < 45 then 0 else 100;grows=0;");
        z.sell(0, 0, 1);
        z.sell(0, 1, 0);
        z.years(1);
        Check.due("AGE of nobody is 0", z.hedge(0, 9), 5);
        z.clip(0, 0);
        z.years(3);
        Check.due("years since it was clipped", z.hedge(0, 6), 3);
    }
}
