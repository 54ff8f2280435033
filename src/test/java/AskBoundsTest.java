/**
 * The boundary cases of what would be ('Terms', III, and promises 14 to 34): numbers too small and too large, the least
 * and the largest answers, nobody alive, no HEDGES, and that nothing happens by asking.
 */
public final class AskBoundsTest {
    static final int MIN = Integer.MIN_VALUE;
    static final int MAX = Integer.MAX_VALUE;
    static final String PAIR = "field f;field g;person a 20;person b 30;";
    static final String OLD = "dies=if age<90 then 0 else 100;";
    /** All die in the first year. */
    static final String GONE = "field f;field g;person a 1;person b 1;hedge f g a b 4;dies=100;";

    /** A call with one argument left open. */
    interface Ask {
        long on(FenceSides x, int n);
    }

    public static void main(String[] args) {
        crosses();
        crossesOverWhat();
        askNumbers();
        askFrom0To5();
        askNotByAll();
        askTheLeastBits();
        openAndItself();
        shutIn();
        matchedNumbers();
        matchedOfNobody();
        matchedAlike();
        will();
        willOfTheDead();
        highest();
        highestWithoutHedges();
        highestAlike();
        due();
        dueRoundedDown();
        buy();
        buyNone();
        gates();
        gatesNone();
        line();
        lineOfSix();
        lineOfSpouses();
        lineOfNobody();
        eldest();
        ones();
        neighbours();
        between();
        gaps();
        most();
        whose();
        then();
        aliveIn();
        year();
        yearBySeeds();
        theDeadAreRefused();
        nothingHappensByAsking();
        Check.end("AskBoundsTest");
    }

    /** An argument's least and largest value with their answers; beyond both: NONE. */
    static void bounds(String what, String text, int least, long atLeast, int largest, long atLargest, Ask ask) {
        FenceSides x = Check.of(text);
        Check.due(what + ", least " + least, ask.on(x, least), atLeast);
        Check.due(what + ", largest " + largest, ask.on(x, largest), atLargest);
        for (int n : new int[] {least - 1, least - 2, largest + 1, largest + 2, largest + 32, MIN, MAX}) {
            Check.due(what + ", " + n, ask.on(x, n), -1);
        }
    }

    // ---- ways

    static void crosses() {
        bounds("promise 14: crosses, PERSON", Twin.TEXT, 0, 0, 5, 0, (x, n) -> x.crosses(n, 4));
        bounds("promise 14: crosses, HEDGE", Twin.TEXT, 0, 0, 9, 0, (x, n) -> x.crosses(4, n));
        Check.due("promise 14: over one's own", Check.of(Twin.TEXT).crosses(4, 4), 1);
        FenceSides own = Check.of(Twin.TEXT);
        own.sell(0, 1, 0);
        own.sell(9, 0, 5);
        Check.due("promise 14: the first PERSON over the first HEDGE", own.crosses(0, 0), 1);
        Check.due("promise 14: the last PERSON over the last HEDGE", own.crosses(5, 9), 1);
    }

    static void crossesOverWhat() {
        FenceSides x = Twin.rich();
        Check.due("promise 14: over a GAP", x.crosses(3, 6), 1);
        Check.due("promise 14: one FACE nobody's, the other theirs", x.crosses(0, 5), 1);
        Check.due("promise 14: one FACE nobody's, the other another's", x.crosses(1, 5), 0);
        Check.due("promise 14: the OUTER FACE another's", x.crosses(2, 1), 0);
        Check.due("promise 14: the INNER FACE another's", x.crosses(0, 1), 0);
        x.sell(1, 0, 1);
        Check.due("promise 14: the OUTER FACE the spouse's", x.crosses(2, 1), 1);
        Check.due("promise 14: the INNER FACE the spouse's", x.crosses(1, 1), 1);
        x.sell(1, 1, 1);
        Check.due("promise 14: both the spouse's", x.crosses(2, 1), 1);
        Check.due("promise 14: both another's", x.crosses(3, 1), 0);
        FenceSides nobody = Check.of("field f;field g;person a 90;person b 30;hedge f g a a 5;" + OLD);
        nobody.years(1);
        Check.due("promise 14: both nobody's", nobody.crosses(1, 0), 1);
    }

    static void askNumbers() {
        bounds("promise 15: ask, PERSON", Twin.TEXT, 0, 1, 5, 1, (x, n) -> x.ask(n, 4, 5, 0));
        bounds("promise 15: ask, from", Twin.TEXT, 0, 3, 6, 2, (x, n) -> x.ask(4, n, 5, 0));
        bounds("promise 15: ask, to", Twin.TEXT, 0, 11, 6, 33, (x, n) -> x.ask(4, 5, n, 1));
        bounds("promise 15: ask, what", Twin.TEXT, 0, 3, 1, 11, (x, n) -> x.ask(4, 0, 5, n));
        bounds("promise 15: ask from an isle, what", Twin.TEXT.replace("hedge ff fg pf pa 3;", "").replace("hedge fe ff pe pe 50;", ""),
            0, -2, 1, -2, (x, n) -> x.ask(4, 0, 5, n));
    }

    static void askFrom0To5() {
        String chain = "field fa;field fb;field fc;field fd;field fe;field ff;person pa 1;person pb 1;person pc 1;person pd 1;person pe 1;person pf 1;"
            + "hedge fa fb pa pb 1;hedge fb fc pa pc 1;hedge fc fd pd pa 1;hedge fd fe pe pa 1;hedge fe ff pf pf 1;";
        FenceSides x = Check.of(chain);
        for (int to = 0; to <= 5; to++) {
            Check.due("promise 15: how many, to " + to, x.ask(0, 0, to, 0), to);
            Check.due("promise 15: who, to " + to, x.ask(0, 0, to, 1), (2 << to) - 2);
            Check.due("promise 15: and back from " + to, x.ask(0, to, 0, 1), (2 << to) - 2);
        }
        Check.due("promise 15: by another", x.ask(1, 0, 5, 1), 63 - 2);
        x.marry(0, 5);
        Check.due("promise 15: not the spouse", x.ask(0, 0, 5, 1), 2 + 4 + 8 + 16);
        Check.due("promise 15: nor the spouse of that one", x.ask(5, 4, 5, 0), 0);
    }

    static void askNotByAll() {
        FenceSides x = Check.of("field f;field g;field h;person a 1;person b 1;hedge f g a b 1;");
        Check.due("promise 15: not by all, how many", x.ask(0, 0, 2, 0), -2);
        Check.due("promise 15: not by all, who", x.ask(0, 2, 1, 1), -2);
        Check.due("promise 15: to the isle itself, how many", x.ask(0, 2, 2, 0), 0);
        Check.due("promise 15: to the isle itself, who", x.ask(0, 2, 2, 1), 0);
        Check.due("promise 15: by all", x.ask(0, 0, 1, 1), 2);
        FenceSides gone = Check.of("field f;field g;person a 90;person b 90;person c 1;hedge f g a b 4;" + OLD);
        Check.due("promise 15: two others", gone.ask(2, 0, 1, 0), 2);
        gone.years(1);
        Check.due("promise 15: nobody's is no matter", gone.ask(2, 0, 1, 0), 0);
    }

    static void askTheLeastBits() {
        String ways = "field f;field g;person a 1;person b 1;person c 1;person d 1;person e 1;";
        FenceSides x = Check.of(ways + "hedge f g e e 1;hedge f g d d 1;hedge f g b c 1;");
        Check.due("promise 15: one of two, the least bits", x.ask(0, 0, 1, 1), 8);
        FenceSides y = Check.of(ways + "hedge f g b c 1;hedge f g e e 1;");
        Check.due("promise 15: the fewest ahead of the least bits", y.ask(0, 0, 1, 1), 16);
        FenceSides z = Check.of(ways + "hedge f g b e 1;hedge f g c d 1;");
        Check.due("promise 15: two of as many, the least bits", z.ask(0, 0, 1, 1), 12);
    }

    static void openAndItself() {
        bounds("promise 16: open, PERSON", Twin.TEXT, 0, 16, 5, 16, (x, n) -> x.open(n, 4));
        bounds("promise 16: open, from", Twin.TEXT, 0, 1, 6, 64, (x, n) -> x.open(4, n));
        Check.due("promise 16: over one's own", Check.of(Twin.TEXT).open(4, 4), 48);
        StringBuilder own = new StringBuilder(TextBoundsTest.fields(7) + "person a 1;person b 1;");
        for (int i = 0; i < 6; i++) {
            // From the last one on, so that each FIELD but two is come to late.
            own.append("hedge f").append((char) ('f' - i)).append(" f").append((char) ('g' - i)).append(" a a 1;");
        }
        FenceSides x = Check.of(own.toString());
        for (int from = 0; from < 7; from++) {
            Check.due("promise 16: all FIELDS from " + from, x.open(0, from), 127);
            Check.due("promise 16: none to another, from " + from, x.open(1, from), 1 << from);
        }
    }

    static void shutIn() {
        bounds("promise 17: shut", Twin.TEXT, 0, 127, 5, 127, (x, n) -> x.shut(n));
        Check.due("promise 17: all but two", Check.of(Twin.TEXT).shut(4), 127 - 48);
        Check.due("promise 17: no FIELDS", Check.of("person a 1;").shut(0), 0);
        Check.due("promise 17: one FIELD", Check.of("field f;person a 1;").shut(0), 1);
        Check.due("promise 17: none is shut", Check.of("field f;field g;person a 1;hedge f g a a 1;").shut(0), 0);
        Check.due("promise 17: one is", Check.of("field f;field g;field h;person a 1;hedge f g a a 1;").shut(0), 4);
    }

    // ---- marriages and heirs

    static void matchedNumbers() {
        FenceSides x = Check.of(Twin.TEXT);
        int[] due = {4, 1, 0, 3, 2, 5, 4};
        for (int i = -1; i <= 5; i++) {
            Check.due("promise 18: matched(" + i + ")", x.matched(i), due[i + 1]);
        }
        for (int i : new int[] {MIN, -3, -2, 6, 7, 31, MAX}) {
            Check.due("promise 18: no such PERSON, matched(" + i + ")", x.matched(i), -1);
        }
        FenceSides one = Check.of("person a 1;");
        Check.due("promise 18: one PERSON with nobody", one.matched(0), -2);
        Check.due("promise 18: none joined", one.matched(-1), 0);
        Check.due("promise 18: no second", one.matched(1), -1);
    }

    static void matchedOfNobody() {
        FenceSides none = Check.of(PAIR);
        Check.due("promise 18: no HEDGES joined", none.matched(-1), 0);
        Check.due("promise 18: so with nobody", none.matched(0), -2);
        FenceSides gone = Check.of(GONE);
        Check.due("promise 18: a pair", gone.matched(0), 1);
        gone.years(1);
        Check.due("promise 18: nobody alive: none", gone.matched(-1), 0);
        Check.due("promise 18: a dead one with nobody", gone.matched(0), -2);
        FenceSides wed = Check.of(PAIR + "person c 1;hedge f g a b 1;hedge f g b c 1;");
        wed.marry(0, 1);
        Check.due("promise 18: married ones: none", wed.matched(-1), 0);
        Check.due("promise 18: the third with nobody", wed.matched(2), -2);
        FenceSides first = Check.of(PAIR + "person c 1;person d 1;hedge f g a c 1;hedge f g c c 1;");
        Check.due("promise 18: a with c", first.matched(-1), 2);
        first.marry(0, 1);
        Check.due("promise 18: a is married, so c with another", first.matched(2), 3);
        first.marry(2, 3);
        Check.due("promise 18: all are married", first.matched(-1), 0);
        FenceSides alone = Check.of("field f;field g;person a 90;person b 1;hedge f g b b 1;" + OLD);
        alone.years(1);
        alone.close(1, 0);
        Check.due("promise 18: one alone alive", alone.matched(-1), 0);
        Check.due("promise 18: with no dead one", alone.matched(1), -2);
        FenceSides gap = Check.of(PAIR + "hedge f g a b 1;falls=1;");
        gap.years(1);
        Check.due("promise 18: none with a GAP", gap.matched(-1), 0);
        gap.close(0, 0);
        Check.due("promise 18: closed", gap.matched(-1), 1);
        FenceSides widow = Check.of("field f;field g;person a 90;person b 30;person c 20;hedge f g b c 1;" + OLD);
        widow.marry(0, 1);
        Check.due("promise 18: not yet a widow", widow.matched(-1), 0);
        widow.years(1);
        Check.due("promise 18: a widow is not married", widow.matched(-1), 1);
        Check.due("promise 18: with c", widow.matched(1), 2);
    }

    static void matchedAlike() {
        String ring = "field f;field g;person a 1;person b 1;person c 1;person d 1;";
        FenceSides all = Check.of(ring + "hedge f g a b 1;hedge f g b c 1;hedge f g c d 1;hedge f g d a 1;hedge f g a c 1;hedge f g b d 1;");
        int[] due = {2, 1, 0, 3, 2};
        for (int i = -1; i < 4; i++) {
            Check.due("promise 18: the lowest for the first, " + i, all.matched(i), due[i + 1]);
        }
        FenceSides three = Check.of(ring + "hedge f g b c 1;hedge f g c d 1;hedge f g d b 1;hedge f g a b 1;hedge f g a d 1;hedge f g b c 1;hedge f g c d 1;");
        // bc 2 + ad 1, cd 2 + ab 1: with b for the first one.
        Check.due("promise 18: three", three.matched(-1), 3);
        Check.due("promise 18: the lowest, b", three.matched(0), 1);
        Check.due("promise 18: c with d", three.matched(2), 3);
        FenceSides across = Check.of(ring + "hedge f g c a 1;hedge f g d b 1;");
        Check.due("promise 18: a with c, b with d", across.matched(-1), 2);
        Check.due("promise 18: a with c", across.matched(0), 2);
        Check.due("promise 18: b with d", across.matched(1), 3);
        FenceSides ahead = Check.of(ring + "hedge f g a b 1;hedge f g b c 1;");
        Check.due("promise 18: nobody ahead of all for the first", ahead.matched(0), -2);
        Check.due("promise 18: then the next", ahead.matched(1), 2);
        FenceSides next = Check.of(ring + "hedge f g a d 1;hedge f g b d 1;hedge f g c d 1;");
        Check.due("promise 18: nobody for a", next.matched(0), -2);
        Check.due("promise 18: nobody for b", next.matched(1), -2);
        Check.due("promise 18: d for c", next.matched(2), 3);
    }

    static void will() {
        bounds("promise 19: will, PERSON", Twin.TEXT, 0, 2, 5, 0, (x, n) -> x.will(n, 1));
        bounds("promise 19: will, other", Twin.TEXT, 0, 2, 5, 0, (x, n) -> x.will(4, n));
        FenceSides x = Check.of(Twin.TEXT);
        for (int p = 0; p < 6; p++) {
            Check.due("promise 19: one and the same, " + p, x.will(p, p), -1);
        }
        Check.due("promise 19: INNER ones", x.will(0, 2), 1);
        Check.due("promise 19: of both sorts", Check.of(PAIR + "hedge f g a a 1;hedge g f a b 1;heirs a b b;").will(0, 1), 3);
        Check.due("promise 19: none", Check.of(PAIR).will(0, 1), 0);
        Check.due("promise 19: all 20", Check.of(PAIR + "hedge f g a a 1;".repeat(10) + "heirs a b b;").will(0, 1), 20);
        x.marry(5, 0);
        Check.due("promise 19: for the spouse, no heir being told", x.will(5, 0), 3);
    }

    static void willOfTheDead() {
        FenceSides x = Check.of("field f;field g;person a 90;person b 30;person c 20;hedge f g b b 1;heirs b a c;" + OLD);
        x.marry(1, 2);
        Check.due("promise 19: to the heir", x.will(1, 0), 1);
        x.years(1);
        Check.due("promise 19: the other is dead", x.will(1, 0), -1);
        Check.due("promise 19: the first is dead", x.will(0, 1), -1);
        Check.due("promise 19: a dead heir's to the spouse", x.will(1, 2), 2);
    }

    static final String TALL = PAIR + "hedge f g a b 5;hedge f g a b 7;hedge f g a b 6;";

    static void highest() {
        bounds("promise 20: highest, n, how high", TALL, 0, 7, 60, 67, (x, n) -> x.highest(n, 1));
        bounds("promise 20: highest, n, which", TALL, 0, 1, 60, 1, (x, n) -> x.highest(n, 0));
        bounds("promise 20: highest, what", TALL, 0, 1, 1, 10, (x, n) -> x.highest(3, n));
        FenceSides x = Check.of(TALL + "grows=which;");
        Check.due("promise 20: in a year, alike ones: the first", x.highest(1, 0), 1);
        Check.due("promise 20: in two", x.highest(2, 0), 2);
        Check.due("promise 20: 59", Check.of(TALL).highest(59, 1), 66);
        Check.due("promise 20: nobody dies", Check.of(TALL + "dies=100;grows=outer;").highest(2, 1), 7 + 20 + 21);
    }

    static void highestWithoutHedges() {
        FenceSides x = Check.of(PAIR);
        for (int n : new int[] {0, 1, 60}) {
            Check.due("promise 20: no HEDGES, which, n " + n, x.highest(n, 0), -2);
            Check.due("promise 20: no HEDGES, how high, n " + n, x.highest(n, 1), -2);
        }
    }

    static void highestAlike() {
        FenceSides x = Check.of(PAIR + "hedge f g a b 0;hedge f g a b 0;grows=0;");
        Check.due("promise 20: alike, all 0", x.highest(60, 0), 0);
        Check.due("promise 20: 0 high", x.highest(60, 1), 0);
        FenceSides y = Check.of(PAIR + "hedge f g a b 98;hedge f g a b 99;");
        Check.due("promise 20: the second", y.highest(0, 0), 1);
        Check.due("promise 20: 99 at most, alike then", y.highest(1, 0), 0);
        FenceSides last = Check.of(PAIR + "hedge f g a b 8;".repeat(9) + "hedge f g a b 9;");
        Check.due("promise 20: the last of ten", last.highest(0, 0), 9);
    }

    static void due() {
        bounds("promise 21: due", Twin.TEXT, 0, 19, 5, 87, (x, n) -> x.due(n));
        Check.due("promise 21: no FACES", Check.of(PAIR).due(1), 0);
        FenceSides x = Twin.rich();
        Check.due("promise 21: of a dead one", x.due(5), 0);
    }

    static void dueRoundedDown() {
        int[] costs = {0, 1, 2, 3, 98, 99, 100};
        int[] half = {0, 0, 1, 1, 49, 49, 49};
        for (int i = 0; i < costs.length; i++) {
            FenceSides x = Check.of(PAIR + "hedge f g a b 5;costs=" + costs[i] + ";");
            Check.due("promise 21: half of " + costs[i], x.due(0), half[i]);
            Check.due("promise 41: DUE of all, " + costs[i], x.count(13), 2 * half[i]);
            x.sell(0, 0, 1);
            Check.due("promise 21: half of " + costs[i] + " for each FACE", x.due(1), 2 * half[i]);
        }
        FenceSides most = Check.of(PAIR + "hedge f g a a 99;".repeat(10));
        Check.due("promise 21: all that can be", most.due(0), 980);
        most.years(1);
        Check.due("promise 21: none with a GAP", most.due(0), 0);
        FenceSides nobody = Check.of("field f;field g;person a 90;person b 1;hedge f g a b 51;" + OLD);
        Check.due("promise 41: DUE of both", nobody.count(13), 50);
        nobody.years(1);
        Check.due("promise 41: nobody's FACE is not due", nobody.count(13), 26);
    }

    static void buy() {
        bounds("promise 22: buy, PERSON", Twin.TEXT, 0, 1, 5, 0, (x, n) -> x.buy(n, 1, 0));
        bounds("promise 22: buy, from", Twin.TEXT, 0, 0, 6, 50, (x, n) -> x.buy(4, n, 5));
        bounds("promise 22: buy, to", Twin.TEXT, 0, 0, 6, 50, (x, n) -> x.buy(4, 5, n));
        FenceSides x = Check.of(PAIR + "hedge f g b a 1;".repeat(9) + "hedge f g b a 1;");
        Check.due("promise 22: the first HEDGE", x.buy(0, 0, 1), 0);
        Check.due("promise 22: the first HEDGE, INNER", x.buy(1, 0, 1), 1);
        FenceSides last = Check.of(PAIR + "hedge f g b b 1;".repeat(9) + "hedge f g a b 1;");
        Check.due("promise 22: the last HEDGE, INNER", last.buy(0, 0, 1), 91);
        FenceSides outer = Check.of(PAIR + "hedge f g b b 1;".repeat(9) + "hedge f g b a 1;");
        Check.due("promise 22: the last HEDGE, OUTER", outer.buy(0, 1, 0), 90);
        FenceSides both = Check.of(PAIR + "person c 1;hedge f g b c 1;");
        Check.due("promise 22: one of two leaves, OUTER first", both.buy(0, 0, 1), 0);
    }

    static void buyNone() {
        FenceSides x = Check.of("field f;field g;field h;person a 1;person b 1;hedge f g b b 1;");
        Check.due("promise 22: one FACE of two is not enough", x.buy(0, 0, 1), -2);
        Check.due("promise 22: not by all", x.buy(0, 0, 2), -2);
        Check.due("promise 22: nothing must be ASKED", x.buy(1, 0, 1), -2);
        Check.due("promise 22: to where one is", x.buy(0, 0, 0), -2);
        Check.due("promise 22: to the isle one is on", x.buy(0, 2, 2), -2);
        FenceSides nobody = Check.of("field f;field g;person a 90;person b 1;person c 1;hedge f g a c 1;" + OLD);
        nobody.years(1);
        Check.due("promise 22: not the FACE of nobody, the other's", nobody.buy(1, 0, 1), 1);
    }

    static void gates() {
        bounds("promise 23: gates, PERSON", Twin.TEXT, 0, 16, 5, 16, (x, n) -> x.gates(n, 4, 5));
        bounds("promise 23: gates, from", Twin.TEXT, 0, 231, 6, 32, (x, n) -> x.gates(4, n, 5));
        bounds("promise 23: gates, to", Twin.TEXT, 0, 231, 6, 32, (x, n) -> x.gates(4, 5, n));
        FenceSides all = Check.of(PAIR + "hedge f g b b 1;".repeat(10));
        Check.due("promise 23: all ten", all.gates(0, 0, 1), 1023);
    }

    static void gatesNone() {
        FenceSides x = Check.of("field f;field g;field h;person a 1;person b 1;hedge f g b b 1;falls=1;");
        Check.due("promise 23: not by all", x.gates(0, 0, 2), 0);
        Check.due("promise 23: nothing must be ASKED", x.gates(1, 0, 1), 0);
        Check.due("promise 23: to where one is", x.gates(0, 1, 1), 0);
        Check.due("promise 23: one gate", x.gates(0, 0, 1), 1);
        x.years(1);
        Check.due("promise 23: none that has a GAP", x.gates(0, 0, 1), 0);
        FenceSides some = Check.of("field f;field g;field h;person a 1;person b 1;hedge f g b b 1;hedge g h b b 1;falls=1-which;");
        Check.due("promise 23: one gate is not enough for b's leave", some.gates(0, 0, 2), 0);
        some.years(1);
        some.close(1, 1);
        Check.due("promise 23: the other one has a GAP", some.gates(0, 0, 2), 2);
        Check.due("promise 23: none on the way over a GAP", some.gates(0, 0, 1), 0);
    }

    static void line() {
        bounds("promise 24: line, HEDGE", Twin.TEXT, 0, 1, 9, 0, (x, n) -> x.line(n, 0, 1));
        bounds("promise 24: line, FACE", Twin.TEXT, 0, -2, 1, 2, (x, n) -> x.line(5, n, 1));
        bounds("promise 24: line, i", Twin.TEXT, 0, 0, 6, -2, (x, n) -> x.line(5, 1, n));
        FenceSides x = Check.of(Twin.TEXT);
        int[] due = {0, 2, 4, 1, 3, -2, -2};
        for (int i = 0; i <= 6; i++) {
            Check.due("promise 24: the " + i + "-th", x.line(5, 1, i), due[i]);
        }
    }

    static void lineOfSix() {
        StringBuilder text = new StringBuilder("field f;field g;" + TextBoundsTest.people(6) + "hedge f g pa pa 1;");
        for (int i = 0; i < 6; i++) {
            text.append("heirs p").append((char) ('a' + i)).append(" p").append((char) ('a' + (i + 1) % 6))
                .append(" p").append((char) ('a' + (i + 5) % 6)).append(";");
        }
        FenceSides x = Check.of(text.toString());
        for (int i = 0; i <= 5; i++) {
            Check.due("promise 24: six heirs, OUTER, the " + i + "-th", x.line(0, 0, i), i);
            Check.due("promise 24: six heirs, INNER, the " + i + "-th", x.line(0, 1, i), (6 - i) % 6);
        }
        Check.due("promise 24: all are dead then", x.line(0, 0, 6), -2);
        Check.due("promise 24: all are dead then, INNER", x.line(0, 1, 6), -2);
        Check.due("promise 24: no 7th", x.line(0, 0, 7), -1);
    }

    static void lineOfSpouses() {
        FenceSides x = Check.of("field f;field g;person a 90;person b 30;person c 20;person d 10;hedge f g b d 1;heirs b a a;heirs c d d;" + OLD);
        x.marry(1, 2);
        int[] due = {1, 0, -2};
        for (int i = 0; i < 3; i++) {
            Check.due("promise 24: the heir is alive, the " + i + "-th", x.line(0, 0, i), due[i]);
        }
        x.years(1);
        int[] then = {1, 2, 3, -2};
        for (int i = 0; i < 4; i++) {
            Check.due("promise 24: a dead heir's to the spouse, the " + i + "-th", x.line(0, 0, i), then[i]);
        }
        FenceSides pair = Check.of(PAIR + "hedge f g a b 1;");
        pair.marry(0, 1);
        Check.due("promise 24: to the spouse", pair.line(0, 0, 1), 1);
        Check.due("promise 24: whose spouse is dead then", pair.line(0, 0, 2), -2);
    }

    static void lineOfNobody() {
        FenceSides x = Twin.rich();
        for (int i = 0; i <= 6; i++) {
            Check.due("promise 24: nobody's, the " + i + "-th", x.line(5, 0, i), -2);
        }
        Check.due("promise 24: nobody's, no 7th", x.line(5, 0, 7), -1);
    }

    // ---- lists

    static void eldest() {
        bounds("promise 25: eldest, what", Twin.TEXT, 0, 5, 1, 99, (x, n) -> x.eldest(n));
        FenceSides gone = Check.of(GONE);
        Check.due("promise 25: of alike ones the first", gone.eldest(0), 0);
        gone.years(1);
        Check.due("promise 25: nobody is alive, who", gone.eldest(0), -2);
        Check.due("promise 25: nobody is alive, AGE", gone.eldest(1), -2);
        FenceSides rich = Twin.rich();
        Check.due("promise 25: a dead one is not the oldest", rich.eldest(0), 0);
        Check.due("promise 25: AGE 88", rich.eldest(1), 88);
        FenceSides zero = Check.of("person a 0;person b 0;");
        Check.due("promise 25: AGE 0, who", zero.eldest(0), 0);
        Check.due("promise 25: AGE 0", zero.eldest(1), 0);
        Check.due("promise 25: one more is older", Check.of("person a 98;person b 99;person c 99;").eldest(0), 1);
    }

    static void ones() {
        Check.due("promise 26: one of ten", Check.of(Twin.TEXT).ones(), 16);
        Check.due("promise 26: all ten", Check.of(PAIR + "hedge f g a a 1;".repeat(10)).ones(), 1023);
        Check.due("promise 26: none", Check.of(PAIR + "hedge f g a b 1;").ones(), 0);
        Check.due("promise 26: no HEDGES", Check.of(PAIR).ones(), 0);
        FenceSides x = Check.of(PAIR + "hedge f g a a 1;hedge f g a b 1;hedge f g b a 1;");
        x.marry(0, 1);
        Check.due("promise 26: spouses'", x.ones(), 7);
        x.years(1);
        Check.due("promise 26: none with a GAP", x.ones(), 0);
        x.close(0, 1);
        Check.due("promise 26: closed", x.ones(), 2);
    }

    static void neighbours() {
        bounds("promise 27: neighbours", Twin.TEXT, 0, 38, 5, 19, (x, n) -> x.neighbours(n));
        Check.due("promise 27: not oneself", Check.of(PAIR + "hedge f g a a 1;").neighbours(0), 0);
        Check.due("promise 27: none", Check.of(PAIR).neighbours(0), 0);
        FenceSides x = Twin.rich();
        Check.due("promise 27: a dead one has none", x.neighbours(5), 0);
        Check.due("promise 27: nobody is none", x.neighbours(0), 6);
        FenceSides some = Check.of(PAIR + "person c 1;person d 1;hedge f g a b 1;hedge f g a c 1;hedge f g d a 1;falls=if which<1 then 0 else if which<2 then 1 else 0;");
        Check.due("promise 27: over three", some.neighbours(0), 14);
        some.years(1);
        Check.due("promise 27: not over the one with a GAP", some.neighbours(0), 10);
        Check.due("promise 27: nor from there", some.neighbours(2), 0);
        Check.due("promise 27: but from the last one", some.neighbours(3), 1);
        FenceSides gap = Check.of(PAIR + "hedge f g a b 1;falls=1;");
        Check.due("promise 27: OUTER", gap.neighbours(0), 2);
        Check.due("promise 27: INNER", gap.neighbours(1), 1);
        gap.years(1);
        Check.due("promise 27: not over a GAP", gap.neighbours(0), 0);
        FenceSides all = Check.of("field f;field g;" + TextBoundsTest.people(6) + "hedge f g pa pb 1;hedge f g pc pa 1;hedge f g pa pd 1;hedge f g pe pa 1;hedge f g pa pf 1;");
        Check.due("promise 27: all others", all.neighbours(0), 62);
        Check.due("promise 27: the first one alone", all.neighbours(5), 1);
    }

    static void between() {
        bounds("promise 28: between, other", Twin.TEXT, 0, 0, 6, 64, (x, n) -> x.between(0, n));
        bounds("promise 28: between, FIELD", Twin.TEXT, 0, 128, 6, 512, (x, n) -> x.between(n, 2));
        FenceSides ten = Check.of("field f;field g;field h;person a 1;" + "hedge f g a a 1;".repeat(5) + "hedge g f a a 1;".repeat(5));
        Check.due("promise 28: all ten", ten.between(0, 1), 1023);
        Check.due("promise 28: all ten, the other way", ten.between(1, 0), 1023);
        Check.due("promise 28: none", ten.between(0, 2), 0);
        Check.due("promise 28: a FIELD and itself", ten.between(0, 0), 0);
        ten.years(1);
        Check.due("promise 28: with a GAP too", ten.between(0, 1), 1023);
        Check.due("promise 28: no HEDGES", Check.of("field f;").between(0, 0), 0);
    }

    static void gaps() {
        String falls = PAIR + "hedge f g a b 5;hedge f g a b 6;falls=high-64;";
        bounds("promise 29: gaps", falls, 0, 0, 60, 1, (x, n) -> x.gaps(n));
        FenceSides x = Check.of(falls);
        Check.due("promise 29: in 59", x.gaps(59), 0);
        Check.due("promise 29: nobody dies", Check.of(PAIR + "hedge f g a b 5;heirs a b b;dies=if which<1 then 100 else 0;").gaps(60), 0);
        FenceSides all = Check.of(PAIR + "hedge f g a a 1;".repeat(10));
        Check.due("promise 29: none now", all.gaps(0), 0);
        Check.due("promise 29: all ten", all.gaps(1), 10);
        all.years(1);
        Check.due("promise 29: all ten now", all.gaps(0), 10);
        Check.due("promise 29: no HEDGES", Check.of(PAIR).gaps(60), 0);
    }

    static void most() {
        bounds("promise 30: most, what", Twin.TEXT, 0, 4, 1, 5, (x, n) -> x.most(n));
        Check.due("promise 30: no FACES, the first", Check.of(PAIR).most(0), 0);
        Check.due("promise 30: no FACES", Check.of(PAIR).most(1), 0);
        Check.due("promise 30: of alike ones the first", Check.of(PAIR + "hedge f g b a 1;").most(0), 0);
        Check.due("promise 30: the first one's FACES", Check.of(PAIR + "hedge f g a a 1;hedge f g b a 1;").most(1), 3);
        Check.due("promise 30: one more", Check.of(PAIR + "hedge f g b a 1;hedge f g b b 1;").most(0), 1);
        Check.due("promise 30: the last of six", Check.of("field f;field g;" + TextBoundsTest.people(6) + "hedge f g pa pf 1;hedge f g pf pb 1;").most(0), 5);
        Check.due("promise 25: the last of six", Check.of(TextBoundsTest.people(5) + "person z 10;").eldest(0), 5);
        Check.due("promise 30: all 20", Check.of(PAIR + "hedge f g b b 1;".repeat(10)).most(1), 20);
        FenceSides gone = Check.of(GONE);
        gone.years(1);
        Check.due("promise 30: nobody is alive, who", gone.most(0), -2);
        Check.due("promise 30: nobody is alive, how many", gone.most(1), -2);
        FenceSides dead = Check.of("field f;field g;person a 90;person b 1;" + OLD);
        dead.years(1);
        Check.due("promise 30: of all alive", dead.most(0), 1);
    }

    // ---- in n years

    static void whose() {
        bounds("promise 31: whose, HEDGE", Twin.TEXT, 0, 0, 9, 4, (x, n) -> x.whose(n, 0, 1));
        bounds("promise 31: whose, FACE", Twin.TEXT, 0, -2, 1, 0, (x, n) -> x.whose(5, n, 1));
        bounds("promise 31: whose, n", Twin.TEXT, 0, 0, 60, 2, (x, n) -> x.whose(5, 1, n));
        FenceSides x = Check.of(Twin.TEXT);
        Check.due("promise 31: the year ahead of the death", x.whose(5, 1, 5), 0);
        Check.due("promise 31: the year of the death", x.whose(5, 1, 6), 2);
        Check.due("promise 31: now", x.whose(5, 0, 0), 5);
        Check.due("promise 31: nobody's", x.whose(5, 0, 60), -2);
    }

    static void then() {
        bounds("promise 32: then, HEDGE", Twin.TEXT, 0, 12, 9, 62, (x, n) -> x.then(n, 1, 0));
        bounds("promise 32: then, n", Twin.TEXT, 0, 10, 60, 22, (x, n) -> x.then(0, n, 0));
        bounds("promise 32: then, what", Twin.TEXT, 0, 22, 1, 1, (x, n) -> x.then(0, 6, n));
        FenceSides x = Check.of(Twin.TEXT);
        Check.due("promise 32: no GAP in 5", x.then(0, 5, 1), 0);
        Check.due("promise 32: a GAP in 60", x.then(0, 60, 1), 1);
        Check.due("promise 32: a GAP now", Twin.rich().then(6, 0, 1), 1);
    }

    static void aliveIn() {
        bounds("promise 33: aliveIn", Twin.TEXT, 0, 63, 60, 14, (x, n) -> x.aliveIn(n));
        FenceSides x = Check.of(Twin.TEXT);
        int[] ns = {1, 5, 6, 50, 51};
        int[] due = {31, 31, 30, 30, 14};
        for (int i = 0; i < ns.length; i++) {
            Check.due("promise 33: aliveIn(" + ns[i] + ")", x.aliveIn(ns[i]), due[i]);
        }
    }

    static void year() {
        bounds("promise 34: year, PERSON", Twin.TEXT, 0, 20, 5, 0, (x, n) -> x.year(n, 5, 20));
        bounds("promise 34: year, n", Twin.TEXT, 0, 7, 60, 7, (x, n) -> x.year(1, n, 7));
        bounds("promise 34: year, s", Twin.TEXT, 1, 1, 20, 20, (x, n) -> x.year(1, 60, n));
        FenceSides x = Check.of(Twin.TEXT);
        Check.due("promise 34: alive in 5", x.year(0, 5, 20), 20);
        Check.due("promise 34: dead in 6", x.year(0, 6, 20), 0);
        Check.due("promise 34: dead now", Twin.rich().year(5, 0, 20), 0);
    }

    static void yearBySeeds() {
        for (int seed : new int[] {0, 1, 500, 9979}) {
            FenceSides x = Check.of("person a 1;person b 1;dies=50;seed " + seed + ";");
            int alive = 0;
            for (int s = 1; s <= 20; s++) {
                alive += YearBoundsTest.lot(seed + s - 1, 1) < 50 ? 0 : 1;
                Check.due("promise 34: by " + s + " SEEDS from " + seed + " on", x.year(1, 1, s), alive);
            }
            Check.due("promise 34: in no YEARS", x.year(1, 0, 20), 20);
        }
    }

    // ---- all of them

    static void theDeadAreRefused() {
        FenceSides x = Twin.rich();
        Check.due("promise 14: not alive", x.crosses(5, 6), -1);
        Check.due("promise 15: not alive", x.ask(5, 0, 6, 0), -1);
        Check.due("promise 15: not alive, nowhere", x.ask(5, 0, 0, 1), -1);
        Check.due("promise 16: not alive", x.open(5, 0), -1);
        Check.due("promise 17: not alive", x.shut(5), -1);
        Check.due("promise 19: not alive", x.will(5, 0), -1);
        Check.due("promise 19: the other is not alive", x.will(0, 5), -1);
        Check.due("promise 22: not alive", x.buy(5, 0, 1), -1);
        Check.due("promise 23: not alive", x.gates(5, 0, 1), -1);
        Check.due("promise 18: a dead one with nobody", x.matched(5), -2);
    }

    static void nothingHappensByAsking() {
        Ask[] asks = {(x, n) -> x.crosses(0, n), (x, n) -> x.ask(0, 0, n, 1), (x, n) -> x.open(0, n), (x, n) -> x.shut(n),
            (x, n) -> x.matched(n), (x, n) -> x.will(0, n), (x, n) -> x.highest(20 * n, 0), (x, n) -> x.due(n),
            (x, n) -> x.buy(0, 0, n), (x, n) -> x.gates(0, 0, n), (x, n) -> x.line(n, 1, 6), (x, n) -> x.eldest(n),
            (x, n) -> x.ones(), (x, n) -> x.neighbours(n), (x, n) -> x.between(0, n), (x, n) -> x.gaps(20 * n),
            (x, n) -> x.most(n), (x, n) -> x.whose(n, 0, 20 * n), (x, n) -> x.then(n, 20 * n, 1), (x, n) -> x.aliveIn(20 * n),
            (x, n) -> x.year(0, 20 * n, 20), (x, n) -> x.died(n, 0), (x, n) -> x.look(n), (x, n) -> x.hedge(n, 9),
            (x, n) -> x.person(n, 6), (x, n) -> x.count(n), (x, n) -> x.place()};
        for (int i = 0; i < asks.length; i++) {
            FenceSides x = Twin.rich();
            for (int n = -1; n <= 4; n++) {
                asks[i].on(x, n);
            }
            Twin.alike("promises 5 to 41: nothing happens by asking, " + i, x, Twin.rich());
        }
    }
}
