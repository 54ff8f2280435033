/** Each promise of the document: ordinary calls, edges, wrong ones, with answers worked out by hand. */
public final class PromisesTest {
    static final String PARISH = "field lea; field moor; field wood; field isle;"
        + "person ann 60; person bob 30; person cid 20; person dan 5;"
        + "hedge lea moor ann bob 10; hedge moor wood ann cid 20; hedge lea wood cid dan 5;"
        + "heirs ann bob cid; grows = 2; falls = high - 30;";
    static final int MIN = Integer.MIN_VALUE;
    static final int MAX = Integer.MAX_VALUE;

    public static void main(String[] args) {
        newObject();
        tape();
        readAndPlace();
        hedge();
        person();
        clipAndClose();
        sell();
        marry();
        years();
        undo();
        ways();
        buyAndGates();
        matched();
        willAndLine();
        highestAndGaps();
        due();
        lists();
        inYears();
        lots();
        told();
        slots();
        count();
        textAfterText();
        everyNumber();
        Check.end("PromisesTest");
    }

    static void newObject() {
        FenceSides x = new FenceSides();
        for (int what = 0; what <= 17; what++) {
            Check.due("new: count(" + what + ")", x.count(what), 0);
        }
        Check.due("new: place", x.place(), -1);
        Check.due("new: years", x.years(5), 5);
        Check.due("new: hold", x.hold(0), true);
        Check.due("new: eldest", x.eldest(1), -2);
        Check.due("new: most", x.most(1), -2);
        Check.due("new: highest", x.highest(0, 1), -2);
        Check.due("new: look", x.look(0), -2);
        Check.due("new: matched", x.matched(-1), 0);
        Check.due("NONE", FenceSides.NONE, -1);
    }

    static void tape() {
        FenceSides x = new FenceSides();
        for (int i = 1; i <= 100; i++) {
            Check.due("feed " + i, x.feed(0x20202020, 0x20202020, 0x20202020, 0x20202020, 0x20202020), 20 * i);
        }
        Check.due("feed of a full tape", x.feed(0, 0, 0, 0, 0), -1);
        Check.due("bytes then", x.count(8), 2000);
        Check.due("back(-1)", x.back(-1), -1);
        Check.due("back(MIN)", x.back(MIN), -1);
        Check.due("back(2001)", x.back(2001), -1);
        Check.due("back(MAX)", x.back(MAX), -1);
        Check.due("back(0)", x.back(0), 2000);
        Check.due("back(19)", x.back(19), 1981);
        Check.due("feed with too little room", x.feed(0, 0, 0, 0, 0), -1);
        Check.due("back(1)", x.back(1), 1980);
        Check.due("feed with just enough", x.feed(0x20202020, 0x20202020, 0x20202020, 0x20202020, 0x20202041), 2000);
        Check.due("read of blanks and A", x.read(), 1);
        Check.due("A is the last byte", x.place(), 1999);
        Check.due("the tape is empty then", x.count(8), 0);
        Check.due("the highest byte comes first", x.feed(0x66696500, 0x6c000000, 0, 0, 0), 20);
        x.back(17);
        Check.due("a word without its end", x.read(), 1);
        Check.due("place of it", x.place(), 0);
        Check.due("back of an empty tape", x.back(1), -1);
        x.feed(0, 0, 0, 0, 0);
        Check.due("all goes", x.back(20), 0);
    }

    static void readAndPlace() {
        FenceSides x = Check.of(PARISH);
        Check.due("place without a fault", x.place(), -1);
        x.clip(0, 0);
        x.marry(0, 1);
        x.years(2);
        x.hold(1);
        x.tell(0, 0, 0, true);
        Check.put(x, "field f; field f;");
        Check.due("a fault", x.read(), 3);
        Check.due("its place", x.place(), 15);
        Check.due("a fault changes nothing: year", x.count(3), 2);
        Check.due("a fault changes nothing: undo", x.count(9), 3);
        Check.due("a fault changes nothing: TOLD", x.count(10), 1);
        Check.due("a fault changes nothing: SLOTS", x.count(11), 1);
        Check.due("a fault changes nothing: FIELDS", x.count(0), 4);
        Check.due("but the tape", x.count(8), 0);
        Check.put(x, "grows = 5; if");
        Check.due("a fault behind a law", x.read(), 1);
        Check.due("the law is as it was", x.hedge(1, 7), 2);
        Check.put(x, "field q; field r; person z 7; hedge q r z z 1;");
        Check.due("another text", x.read(), 0);
        Check.due("no place", x.place(), -1);
        int[] want = {2, 1, 1, 0, 1, 0, 0, 0, 0, 0, 0, 0, 1, 0, 0, 7, 1, 0};
        for (int what = 0; what < want.length; what++) {
            Check.due("another text: count(" + what + ")", x.count(what), want[what]);
        }
        Check.due("laws not told are as ever: GROWS", x.hedge(0, 7), 1);
        Check.due("laws not told are as ever: FALLS", x.hedge(0, 8), 0);
        Check.due("laws not told are as ever: COSTS", x.hedge(0, 9), 1);
        Check.due("laws not told are as ever: DIES", x.person(0, 6), 0);
        Check.due("nothing can be undone", x.undo(), false);
        Check.due("nothing is held", x.restore(1), false);
        Check.due("the empty text", x.read(), 0);
        Check.due("has no FIELDS", x.count(0), 0);
    }

    static void hedge() {
        FenceSides x = Check.of(PARISH + "costs = outer + inner * 2 - high - 71;");
        int[] want = {0, 1, 0, 1, 10, 0, 0, 2, 0, 39};
        for (int what = 0; what < want.length; what++) {
            Check.due("hedge(0, " + what + ")", x.hedge(0, what), want[what]);
        }
        Check.due("hedge(0, 10)", x.hedge(0, 10), -1);
        Check.due("hedge(0, -1)", x.hedge(0, -1), -1);
        Check.due("hedge(3, 0)", x.hedge(3, 0), -1);
        Check.due("hedge(-1, 0)", x.hedge(-1, 0), -1);
        Check.due("hedge(MAX, MAX)", x.hedge(MAX, MAX), -1);
        Check.due("COSTS is held to 0", x.hedge(2, 9), 0);
        x.years(4);
        Check.due("never clipped: the year", x.hedge(0, 6), 4);
        x.clip(0, 0);
        Check.due("clipped now", x.hedge(0, 6), 0);
        x.years(3);
        Check.due("clipped three years ago", x.hedge(0, 6), 3);
        Check.due("another one never", x.hedge(1, 6), 7);
        Check.due("it fell", x.hedge(1, 5), 1);
        Check.due("nobody clips who has none", x.hedge(1, 4), 34);
        FenceSides y = Check.of("field f; field g; person a 1; hedge f g a a 40; grows = 100; falls = high - 40 + 1; costs = 100;");
        Check.due("GROWS is held to 99", y.hedge(0, 7), 99);
        Check.due("FALLS: more than 0", y.hedge(0, 8), 1);
        Check.due("COSTS is held to 99", y.hedge(0, 9), 99);
    }

    static void person() {
        FenceSides x = Check.of(PARISH + "dies = age * 2 - faces - which - gaps - 7;");
        int[] want = {60, 1, -2, 1, 2, 2, 100};
        for (int what = 0; what < want.length; what++) {
            Check.due("person(0, " + what + ")", x.person(0, what), want[what]);
        }
        Check.due("DIES of bob", x.person(1, 6), 60 - 1 - 1 - 7);
        Check.due("DIES of dan is held to 0", x.person(3, 6), 0);
        Check.due("no heirs", x.person(1, 4), -2);
        Check.due("person(0, 7)", x.person(0, 7), -1);
        Check.due("person(0, -1)", x.person(0, -1), -1);
        Check.due("person(4, 0)", x.person(4, 0), -1);
        Check.due("person(-1, 0)", x.person(-1, 0), -1);
        x.marry(0, 3);
        Check.due("the spouse", x.person(0, 2), 3);
        Check.due("the other one's", x.person(3, 2), 0);
        x.years(1);
        Check.due("ann is dead", x.person(0, 1), 0);
        Check.due("her AGE as she died", x.person(0, 0), 60);
        Check.due("has no FACES", x.person(0, 5), 0);
        Check.due("the spouse, alive", x.person(0, 2), 3);
        Check.due("the spouse, dead", x.person(3, 2), 0);
        FenceSides y = Check.of("person a 1; person b 2; person c 3; heirs a b c; heirs a c b;");
        Check.due("the last heirs told", y.person(0, 3), 2);
        Check.due("the last heirs told", y.person(0, 4), 1);
    }

    static void clipAndClose() {
        FenceSides x = Check.of(PARISH);
        Check.due("clip by one without a FACE", x.clip(1, 1), false);
        Check.due("clip by no one", x.clip(4, 0), false);
        Check.due("clip by -1", x.clip(-1, 0), false);
        Check.due("clip of none", x.clip(0, 3), false);
        Check.due("clip of -1", x.clip(0, -1), false);
        Check.due("nothing done", x.count(9), 0);
        Check.due("clip by the inner one", x.clip(1, 0), true);
        Check.due("HIGH 0", x.hedge(0, 4), 0);
        Check.due("ever clipped", x.count(14), 1);
        Check.due("close without a GAP", x.close(0, 0), false);
        x.years(7);
        Check.due("a GAP", x.hedge(1, 5), 1);
        Check.due("close by one without a FACE", x.close(1, 1), false);
        Check.due("close by no one", x.close(9, 1), false);
        Check.due("close of none", x.close(0, MAX), false);
        Check.due("close", x.close(2, 1), true);
        Check.due("no GAP", x.hedge(1, 5), 0);
        Check.due("HIGH 0 then", x.hedge(1, 4), 0);
        Check.due("clipped then", x.hedge(1, 6), 0);
        Check.due("ever clipped then", x.count(14), 3);
        Check.due("close again", x.close(2, 1), false);
        FenceSides dead = Check.of("field f; field g; person a 9; person b 1; hedge f g a b 5; dies = if age < 5 then 0 else 100; falls = 1;");
        dead.years(1);
        Check.due("clip by a dead one", dead.clip(0, 0), false);
        Check.due("close by a dead one", dead.close(0, 0), false);
        Check.due("a hedge with a GAP is clipped", dead.clip(1, 0), true);
        Check.due("its GAP stays", dead.hedge(0, 5), 1);
        Check.due("the outer FACE is nobody's", dead.hedge(0, 2), -2);
    }

    static void sell() {
        FenceSides x = Check.of(PARISH);
        Check.due("sell what is theirs", x.sell(0, 0, 0), false);
        Check.due("sell face 2", x.sell(0, 2, 1), false);
        Check.due("sell face -1", x.sell(0, -1, 1), false);
        Check.due("sell hedge 3", x.sell(3, 0, 1), false);
        Check.due("sell hedge -1", x.sell(-1, 0, 1), false);
        Check.due("sell to 4", x.sell(0, 0, 4), false);
        Check.due("sell to -2", x.sell(0, 0, -2), false);
        Check.due("sell", x.sell(0, 1, 3), true);
        Check.due("dan's", x.hedge(0, 3), 3);
        Check.due("bob has none", x.person(1, 5), 0);
        FenceSides dead = Check.of("field f; field g; person a 9; person b 1; hedge f g a b 5; dies = if age < 5 then 0 else 100;");
        dead.years(1);
        Check.due("nobody's FACES", dead.count(7), 1);
        Check.due("sell to a dead one", dead.sell(0, 1, 0), false);
        Check.due("sell a FACE of nobody's", dead.sell(0, 0, 1), true);
        Check.due("nobody's FACES then", dead.count(7), 0);
    }

    static void marry() {
        FenceSides x = Check.of("person a 70; person b 30; person c 20; dies = if age < 75 then 0 else 100;");
        Check.due("with oneself", x.marry(0, 0), false);
        Check.due("with no one", x.marry(0, 3), false);
        Check.due("with -1", x.marry(-1, 0), false);
        Check.due("marry", x.marry(1, 0), true);
        Check.due("twice", x.marry(0, 2), false);
        Check.due("twice, the other one", x.marry(2, 1), false);
        Check.due("married", x.count(5), 3);
        x.years(6);
        Check.due("a is dead", x.count(4), 6);
        Check.due("a widow is not married", x.count(5), 0);
        Check.due("with a dead one", x.marry(2, 0), false);
        Check.due("a widow marries", x.marry(1, 2), true);
        Check.due("the new spouse", x.person(1, 2), 2);
        Check.due("the dead one's spouse", x.person(0, 2), 1);
        Check.due("married then", x.count(5), 6);
    }

    static void years() {
        FenceSides x = Check.of(PARISH);
        Check.due("years(-1)", x.years(-1), -1);
        Check.due("years(61)", x.years(61), -1);
        Check.due("years(0)", x.years(0), 0);
        Check.due("0 is no thing done", x.count(9), 0);
        Check.due("years(60)", x.years(60), 60);
        Check.due("one thing done", x.count(9), 1);
        Check.due("older", x.person(3, 0), 65);
        x.years(60);
        x.years(60);
        Check.due("199 at most", x.person(0, 0), 199);
        Check.due("a year less", x.person(3, 0), 185);

        FenceSides high = Check.of("field f; field g; person a 9; person b 1; hedge f g a b 95; hedge f g a a 7; grows = 3;");
        high.years(1);
        Check.due("higher by GROWS", high.hedge(0, 4), 98);
        Check.due("one's hedge is higher, then has a GAP", high.hedge(1, 4), 10);
        Check.due("a GAP", high.count(6), 2);
        high.years(1);
        Check.due("99 at most", high.hedge(0, 4), 99);
        Check.due("one with a GAP does not grow", high.hedge(1, 4), 10);

        // All by how it was as the year began: b's heir is dead when b leaves, c's AGE is that of before.
        FenceSides both = Check.of("field f; field g; person a 80; person b 80; person c 10; person d 10;"
            + "hedge f g a b 1; hedge f g b d 1; heirs a b b; heirs b a c; dies = if age < 80 then 0 else 100; grows = outer / 10;");
        both.marry(0, 3);
        both.years(1);
        Check.due("both are dead", both.count(4), 12);
        Check.due("to the spouse, the heir being dead", both.hedge(0, 2), 3);
        Check.due("INNER to the heir to INNER ones", both.hedge(0, 3), 2);
        Check.due("to nobody", both.hedge(1, 2), -2);
        Check.due("GROWS by who it was", both.hedge(1, 4), 9);
        Check.due("no GAP by nobody's FACE", both.count(6), 0);

        FenceSides wed = Check.of("field f; field g; person a 8; person b 8; hedge f g a b 1; falls = 0 - 5;");
        wed.marry(0, 1);
        Check.due("spouses' hedge", wed.ones(), 1);
        wed.years(1);
        Check.due("has a GAP", wed.count(6), 1);

        FenceSides falls = Check.of("field f; field g; person a 8; person b 8; hedge f g a b 1; hedge f g a b 1; falls = years - which;");
        falls.years(1);
        Check.due("FALLS as the year began", falls.count(6), 0);
        falls.years(1);
        Check.due("FALLS a year later", falls.count(6), 1);
    }

    static void undo() {
        FenceSides x = Check.of(PARISH);
        Check.due("nothing to undo", x.undo(), false);
        x.clip(0, 0);
        x.sell(0, 0, 3);
        x.marry(0, 1);
        x.years(9);
        x.close(0, 1);
        x.clip(9, 9);
        Check.due("five things", x.count(9), 5);
        Check.due("undo close", x.undo(), true);
        Check.due("a GAP again", x.hedge(1, 5), 1);
        Check.due("HIGH again", x.hedge(1, 4), 34);
        Check.due("undo years", x.undo(), true);
        Check.due("the year", x.count(3), 0);
        Check.due("no GAPS", x.count(6), 0);
        Check.due("AGE", x.person(0, 0), 60);
        Check.due("undo marry", x.undo(), true);
        Check.due("nobody is married", x.person(0, 2), -2);
        Check.due("undo sell", x.undo(), true);
        Check.due("ann's again", x.hedge(0, 2), 0);
        Check.due("undo clip", x.undo(), true);
        Check.due("HIGH as told", x.hedge(0, 4), 10);
        Check.due("never clipped", x.count(14), 0);
        Check.due("nothing more", x.undo(), false);
        for (int i = 0; i < 45; i++) {
            x.years(1);
        }
        Check.due("the last 40", x.count(9), 40);
        int undone = 0;
        while (undone < 100 && x.undo()) {
            undone++;
        }
        Check.due("40 undone", undone, 40);
        Check.due("year 5 is left", x.count(3), 5);
    }

    static void ways() {
        FenceSides x = Check.of(PARISH);
        Check.due("crosses no one's leave", x.crosses(0, 0), 0);
        Check.due("crosses by no one", x.crosses(4, 0), -1);
        Check.due("crosses none", x.crosses(0, 3), -1);
        Check.due("ask how many", x.ask(3, 0, 1, 0), 2);
        Check.due("ask who", x.ask(3, 0, 1, 1), 3);
        Check.due("ask for an isle", x.ask(0, 0, 3, 0), -2);
        Check.due("ask who for an isle", x.ask(0, 3, 1, 1), -2);
        Check.due("ask for nothing", x.ask(0, 3, 3, 1), 0);
        Check.due("ask what 2", x.ask(0, 0, 1, 2), -1);
        Check.due("ask what -1", x.ask(0, 0, 3, -1), -1);
        Check.due("ask from 4", x.ask(0, 4, 1, 0), -1);
        Check.due("ask to -1", x.ask(0, 0, -1, 0), -1);
        Check.due("ask by -1", x.ask(-1, 0, 1, 0), -1);
        Check.due("open by 4", x.open(4, 0), -1);
        Check.due("open from 4", x.open(0, 4), -1);
        Check.due("open from -1", x.open(0, -1), -1);
        Check.due("shut by -1", x.shut(-1), -1);
        Check.due("all shut", x.shut(0), 15);
        x.marry(2, 3);
        Check.due("over spouses' hedge", x.crosses(2, 2), 1);
        Check.due("open over it", x.open(3, 0), 5);
        Check.due("shut but for it", x.shut(2), 10);
        Check.due("the spouse need not be asked", x.ask(2, 0, 1, 1), 1);
        x.sell(0, 1, 0);
        Check.due("over one's own", x.crosses(0, 0), 1);
        Check.due("not over another's", x.crosses(1, 0), 0);
        x.years(7);
        Check.due("over a GAP", x.crosses(1, 1), 1);
        Check.due("open over GAPS", x.open(1, 0), 7);

        // Two ways of one leave each: the least bits; one of two leaves is no better.
        FenceSides y = Check.of("field f; field g; field h; person a 1; person b 1; person c 1; person d 80; hedge f h c a 1; hedge f g a b 1;"
            + "hedge g h b b 1; hedge f h d d 1; dies = if age < 50 then 0 else 100;");
        Check.due("the least bits of as many", y.ask(0, 0, 2, 1), 2);
        y.sell(2, 0, 2);
        Check.due("fewer ahead of less", y.ask(0, 0, 2, 1), 4);
        y.years(1);
        Check.due("over nobody's FACES", y.ask(0, 0, 2, 0), 0);
        Check.due("ask by a dead one", y.ask(3, 0, 2, 0), -1);
        Check.due("crosses, dead", y.crosses(3, 0), -1);
        Check.due("open, dead", y.open(3, 0), -1);
        Check.due("shut, dead", y.shut(3), -1);
        Check.due("buy, dead", y.buy(3, 0, 1), -1);
        Check.due("gates, dead", y.gates(3, 0, 1), -1);

        FenceSides five = Check.of("field f; field g; field h; field i; person a 1; person b 1; person c 1; person d 1; person e 1; person l 1;"
            + "hedge f g b c 1; hedge h g d e 1; hedge h i l l 1;");
        Check.due("five must be asked", five.ask(0, 0, 3, 0), 5);
        Check.due("all others", five.ask(0, 3, 0, 1), 62);
    }

    static void buyAndGates() {
        FenceSides x = Check.of(PARISH);
        Check.due("buy the INNER face", x.buy(0, 0, 1), 1);
        Check.due("buy the OUTER face", x.buy(1, 1, 0), 0);
        Check.due("buy on the way", x.buy(3, 0, 2), 20);
        Check.due("buy for an isle", x.buy(0, 0, 3), -2);
        Check.due("buy from 4", x.buy(0, 4, 0), -1);
        Check.due("buy to -1", x.buy(0, 0, -1), -1);
        Check.due("buy by 4", x.buy(4, 0, 0), -1);
        Check.due("gates of two ways", x.gates(0, 0, 2), 7);
        Check.due("gates for an isle", x.gates(0, 0, 3), 0);
        Check.due("gates of nothing", x.gates(0, 2, 2), 0);
        Check.due("gates by -1", x.gates(-1, 0, 1), -1);
        Check.due("gates from 4", x.gates(0, 4, 1), -1);
        Check.due("gates to MIN", x.gates(0, 0, MIN), -1);
        Check.due("nothing happened", x.hedge(0, 3), 1);
        Check.due("no GAP came", x.count(6), 0);
        FenceSides y = Check.of("field f; field g; person a 1; person b 1; hedge f g b b 1; hedge f g b a 1;");
        Check.due("one FACE of two is not enough", y.buy(0, 0, 1), 10);
        y.sell(0, 0, 0);
        Check.due("then one is", y.buy(0, 0, 1), 1);
        y.marry(0, 1);
        Check.due("nothing to ask, nothing to buy", y.buy(0, 0, 1), -2);
    }

    static void matched() {
        FenceSides x = Check.of(PARISH);
        Check.due("matched(4)", x.matched(4), -1);
        Check.due("matched(-2)", x.matched(-2), -1);
        Check.due("two hedges", x.matched(-1), 2);
        Check.due("with bob", x.matched(0), 1);
        // Alike: a with b, or a with c; nobody would join less. Then nobody ahead of all.
        FenceSides y = Check.of("field f; field g; person a 1; person b 1; person c 1; person d 1; hedge f g b c 1; hedge f g b d 1; hedge f g d d 1;");
        Check.due("b and d", y.matched(-1), 2);
        Check.due("a with nobody", y.matched(0), -2);
        Check.due("b with d", y.matched(1), 3);
        Check.due("c with nobody", y.matched(2), -2);
        Check.due("d with b", y.matched(3), 1);
        y.sell(2, 0, 0);
        Check.due("a with d, b with c", y.matched(-1), 2);
        Check.due("a with d", y.matched(0), 3);
        Check.due("b with c", y.matched(1), 2);
        FenceSides z = Check.of("field f; field g; person a 1; person b 1; person c 1; hedge f g a b 1; hedge g f c a 1; hedge f g b c 1;");
        Check.due("alike: nobody for the first one", z.matched(0), -2);
        Check.due("alike: the others", z.matched(1), 2);
        z.sell(2, 0, 2);
        Check.due("c with a has two", z.matched(2), 0);
        Check.due("two hedges", z.matched(-1), 2);
        FenceSides low = Check.of("field f; field g; person a 1; person b 1; person c 1; hedge f g a b 1; hedge g f c a 1;");
        Check.due("alike: the lowest", low.matched(0), 1);
        Check.due("nobody for c", low.matched(2), -2);
        low.years(1);
        low.marry(1, 2);
        Check.due("married ones do not marry", low.matched(-1), 0);
        FenceSides gap = Check.of("field f; field g; person a 1; person b 1; hedge f g a b 1; falls = 1;");
        gap.years(1);
        Check.due("no HEDGES with a GAP", gap.matched(-1), 0);
        FenceSides dead = Check.of("field f; field g; person a 80; person b 1; person c 1; person d 2; hedge f g b c 1; hedge f g c d 1; hedge f g c d 1; dies = if age < 50 then 0 else 100;");
        dead.marry(0, 3);
        Check.due("d is married", dead.matched(2), 1);
        dead.years(1);
        Check.due("d is a widow", dead.matched(2), 3);
        Check.due("a is dead", dead.matched(0), -2);
    }

    static void willAndLine() {
        FenceSides x = Check.of(PARISH);
        Check.due("will of OUTER ones", x.will(0, 1), 2);
        Check.due("will of no INNER ones", x.will(0, 2), 0);
        Check.due("will of one without heirs", x.will(2, 0), 0);
        x.marry(2, 3);
        Check.due("will for the spouse", x.will(2, 3), 2);
        Check.due("will for oneself", x.will(2, 2), -1);
        Check.due("will of 4", x.will(4, 0), -1);
        Check.due("will for -1", x.will(0, -1), -1);
        Check.due("line now", x.line(1, 0, 0), 0);
        Check.due("line: the heir", x.line(1, 0, 1), 1);
        Check.due("line: nobody", x.line(1, 0, 2), -2);
        Check.due("line: the spouse", x.line(1, 1, 1), 3);
        Check.due("line: the spouse is dead then", x.line(1, 1, 2), -2);
        Check.due("line 6", x.line(1, 1, 6), -2);
        Check.due("line 7", x.line(1, 1, 7), -1);
        Check.due("line -1", x.line(1, 1, -1), -1);
        Check.due("line face 2", x.line(1, 2, 0), -1);
        Check.due("line hedge 3", x.line(3, 0, 0), -1);
        FenceSides y = Check.of("field f; field g; person a 80; person b 1; person c 2; person d 3; hedge f g a a 1;"
            + "heirs a b c; heirs b a c; heirs c d b; dies = if age < 50 then 0 else 100;");
        int[] outer = {0, 1, -2};
        int[] inner = {0, 2, 1, -2};
        for (int i = 0; i < outer.length; i++) {
            Check.due("outer line " + i, y.line(0, 0, i), outer[i]);
        }
        for (int i = 0; i < inner.length; i++) {
            Check.due("inner line " + i, y.line(0, 1, i), inner[i]);
        }
        Check.due("one FACE each", y.will(0, 1), 1);
        y.years(1);
        Check.due("will of a dead one", y.will(0, 1), -1);
        Check.due("will for a dead one", y.will(1, 0), -1);
        Check.due("line: the heir is dead", y.line(0, 0, 1), -2);
    }

    static void highestAndGaps() {
        FenceSides x = Check.of(PARISH + "dies = 100;");
        Check.due("highest which", x.highest(0, 0), 1);
        Check.due("highest how high, nobody dies", x.highest(12, 1), 34);
        Check.due("alike ones: the first", x.highest(60, 0), 0);
        Check.due("all fell at last", x.highest(60, 1), 34);
        Check.due("what 2", x.highest(0, 2), -1);
        Check.due("what -1", x.highest(0, -1), -1);
        Check.due("n 61", x.highest(61, 0), -1);
        Check.due("n -1", x.highest(-1, 0), -1);
        Check.due("gaps 0", x.gaps(0), 0);
        Check.due("gaps 7", x.gaps(7), 1);
        Check.due("gaps 12", x.gaps(12), 2);
        Check.due("gaps 60", x.gaps(60), 3);
        Check.due("gaps 61", x.gaps(61), -1);
        Check.due("gaps -1", x.gaps(-1), -1);
        Check.due("nothing happened", x.count(3), 0);
        x.years(1);
        Check.due("all died", x.count(16), 0);
        FenceSides y = Check.of("field f; field g; person a 1; person b 1; hedge f g a b 5; heirs a b b; dies = if which < 1 then 100 else 0; grows = if outer < 3 then 1 else 2;");
        Check.due("nobody dies, so no GAP", y.gaps(3), 0);
        Check.due("nobody dies, all are older", y.highest(3, 1), 5 + 1 + 1 + 2);
        Check.due("with deaths", y.then(0, 3, 1), 1);
        Check.due("one with a GAP counts", Check.of("field f; field g; person a 1; hedge f g a a 5; hedge f g a a 4;").highest(3, 1), 6);
    }

    static void due() {
        FenceSides x = Check.of(PARISH + "costs = high + 1;");
        Check.due("due of ann", x.due(0), 5 + 10);
        Check.due("due of dan", x.due(3), 3);
        Check.due("due of 4", x.due(4), -1);
        Check.due("due of -1", x.due(-1), -1);
        x.sell(0, 0, 1);
        Check.due("both halves, each rounded down", x.due(1), 10);
        x.years(1);
        Check.due("none with a GAP", x.due(1), 0);
    }

    static void lists() {
        FenceSides x = Check.of(PARISH);
        Check.due("eldest who", x.eldest(0), 0);
        Check.due("eldest AGE", x.eldest(1), 60);
        Check.due("eldest 2", x.eldest(2), -1);
        Check.due("eldest -1", x.eldest(-1), -1);
        Check.due("most who, the first", x.most(0), 0);
        Check.due("most how many", x.most(1), 2);
        Check.due("most 2", x.most(2), -1);
        Check.due("most -1", x.most(-1), -1);
        x.sell(0, 0, 2);
        Check.due("most then", x.most(0), 2);
        Check.due("how many then", x.most(1), 3);
        Check.due("neighbours", x.neighbours(2), 1 + 2 + 8);
        Check.due("neighbours of 4", x.neighbours(4), -1);
        Check.due("neighbours of -1", x.neighbours(-1), -1);
        x.marry(0, 2);
        Check.due("a spouse is a neighbour", x.neighbours(0), 4);
        Check.due("ones of spouses", x.ones(), 2);
        x.sell(2, 1, 2);
        Check.due("ones of one", x.ones(), 6);
        Check.due("no neighbour of oneself", x.neighbours(2), 3);
        x.years(1);
        Check.due("not with a GAP", x.ones(), 0);
        Check.due("no neighbours over a GAP", x.neighbours(0), 0);
        Check.due("between, with a GAP too", x.between(1, 2), 2);
        Check.due("between, the other way", x.between(2, 1), 2);
        Check.due("between none", x.between(0, 3), 0);
        Check.due("between 4", x.between(0, 4), -1);
        Check.due("between -1", x.between(-1, 0), -1);
        FenceSides y = Check.of("person a 7; person b 9; person c 9; dies = if which < 1 then 0 else age * years;");
        Check.due("eldest, the first of alike ones", y.eldest(0), 1);
        y.years(60);
        Check.due("eldest alive", y.eldest(0), 0);
        Check.due("most alive", y.most(0), 0);
        Check.due("none", y.most(1), 0);
        FenceSides nobody = Check.of("field f; field g; person a 1; person b 1; hedge f g a b 3; dies = 100;");
        nobody.years(1);
        Check.due("nobody is alive: eldest", nobody.eldest(0), -2);
        Check.due("nobody is alive: most", nobody.most(1), -2);
        Check.due("nobody is alive: eldest(2)", nobody.eldest(2), -1);
        Check.due("nobody is alive: ones", nobody.ones(), 0);
        Check.due("nobody is alive: look", nobody.look(0), -2);
        Check.due("nobody is alive: no GAP", nobody.count(6), 0);
    }

    static void inYears() {
        FenceSides x = Check.of("field f; field g; person a 80; person b 70; person c 1; hedge f g a b 5; hedge g f b c 5;"
            + "heirs a b c; heirs b c c; dies = if age < 75 then 0 else 100; grows = 9 / clipped;");
        Check.due("whose now", x.whose(0, 0, 0), 0);
        Check.due("whose in a year", x.whose(0, 0, 1), 1);
        Check.due("whose in 6 years", x.whose(0, 0, 6), 2);
        Check.due("whose in 60 years", x.whose(1, 1, 60), 2);
        Check.due("whose in 61", x.whose(0, 0, 61), -1);
        Check.due("whose in -1", x.whose(0, 0, -1), -1);
        Check.due("whose face 2", x.whose(0, 2, 0), -1);
        Check.due("whose hedge 2", x.whose(2, 0, 0), -1);
        Check.due("then HIGH", x.then(1, 3, 0), 5 + 9 + 4);
        Check.due("then a GAP", x.then(0, 1, 1), 1);
        Check.due("then none", x.then(1, 5, 1), 0);
        Check.due("then what 2", x.then(1, 5, 2), -1);
        Check.due("then what -1", x.then(1, 5, -1), -1);
        Check.due("then in 61", x.then(1, 61, 0), -1);
        Check.due("then hedge -1", x.then(-1, 1, 0), -1);
        Check.due("alive in 0", x.aliveIn(0), 7);
        Check.due("alive in 1", x.aliveIn(1), 6);
        Check.due("alive in 60", x.aliveIn(60), 4);
        Check.due("alive in 61", x.aliveIn(61), -1);
        Check.due("alive in -1", x.aliveIn(-1), -1);
        Check.due("year of c", x.year(2, 60, 20), 20);
        Check.due("year of b", x.year(1, 5, 20), 20);
        Check.due("year of b, later", x.year(1, 6, 20), 0);
        Check.due("year by 1 seed", x.year(1, 5, 1), 1);
        Check.due("whose the INNER one", x.whose(0, 1, 0), 1);
        Check.due("year by 0 seeds", x.year(1, 6, 0), -1);
        Check.due("year by 21 seeds", x.year(1, 6, 21), -1);
        Check.due("year in 61", x.year(1, 61, 1), -1);
        Check.due("year of 3", x.year(3, 1, 1), -1);
        Check.due("nothing happened", x.count(3) + x.count(9), 0);
        x.years(1);
        Check.due("year of a dead one", x.year(0, 0, 7), 0);
    }

    /** LOTS of the SEED and of 8 * the year and the number, worked out with longs. */
    static void lots() {
        for (int seed : new int[] {0, 1, 77, 9999}) {
            FenceSides x = Check.of("person a 0; person b 0; person c 0; dies = 37; seed " + seed + ";");
            Check.due("the first year, seed " + seed, x.aliveIn(1), survivors(seed, 0, 7));
            Check.due("the second year, seed " + seed, x.aliveIn(2), survivors(seed, 1, survivors(seed, 0, 7)));
            int times = 0;
            for (int s = 0; s < 20; s++) {
                times += survivors(seed + s, 1, survivors(seed + s, 0, 7)) >> 2 & 1;
            }
            Check.due("by 20 seeds from " + seed, x.year(2, 2, 20), times);
            x.years(2);
            Check.due("two years gone, seed " + seed, x.count(4), survivors(seed, 1, survivors(seed, 0, 7)));
        }
    }

    static int survivors(int seed, int year, int alive) {
        int left = alive;
        for (int p = 0; p < 3; p++) {
            long h = seed;
            for (long it : new long[] {155, 8L * year + p}) {
                h = ((h ^ it) * 1103515245L + 12345L) % 4294967296L;
                h = h ^ h / 32768;
            }
            if (h / 2 % 100 < 37) {
                left &= ~(1 << p);
            }
        }
        return left;
    }

    static void told() {
        FenceSides x = Check.of(PARISH);
        Check.due("tell of hedge 3", x.tell(3, 0, 0, true), -1);
        Check.due("tell of face 2", x.tell(0, 2, 0, true), -1);
        Check.due("tell of 4", x.tell(0, 0, 4, true), -1);
        Check.due("tell of -2", x.tell(0, 0, -2, false), -1);
        Check.due("died(0)", x.died(0, 1), 15);
        Check.due("look(0)", x.look(0), 0);
        Check.due("the first one told", x.tell(1, 1, 2, false), 0);
        Check.due("it was cid", x.died(1, 1), 4);
        Check.due("the second one told", x.tell(0, 0, 0, true), 1);
        Check.due("not ann", x.died(2, 1), 4);
        Check.due("the first k alone", x.died(1, 0), 1);
        Check.due("one is left: look", x.look(1), 0);
        x.tell(2, 0, 2, true);
        Check.due("none is left", x.died(3, 0), 0);
        Check.due("none is left: look", x.look(3), -2);
        Check.due("died(4)", x.died(4, 0), -1);
        Check.due("died(-1)", x.died(-1, 0), -1);
        Check.due("died what 2", x.died(0, 2), -1);
        Check.due("look(4)", x.look(4), -1);
        Check.due("look(-1)", x.look(-1), -1);
        for (int i = 3; i < 20; i++) {
            Check.due("tell " + i, x.tell(0, 0, 0, true), i);
        }
        Check.due("a 21st", x.tell(0, 0, 0, true), -1);
        Check.due("told ones", x.count(10), 20);
        x.undo();
        x.hold(0);
        x.restore(0);
        Check.due("held and undone, they stay", x.count(10), 20);
        Check.due("forget", x.forget(), 20);
        Check.due("forget again", x.forget(), 0);
        Check.due("died(0) again", x.died(0, 0), 4);

        // Hedge 1's INNER face tells the dead one of three; hedge 0's tell only whether it was c.
        FenceSides y = Check.of("field f; field g; person a 1; person b 1; person c 1; hedge f g c c 1; hedge f g c a 1; hedge f g b b 1; heirs c a b;");
        Check.due("look at the first of alike ones", y.look(0), 0);
        y.tell(0, 0, 2, true);
        Check.due("a or b", y.died(1, 1), 3);
        Check.due("look at a's", y.look(1), 11);
        FenceSides z = Check.of("field f; field g; person a 80; person b 1; hedge f g b b 1; dies = if age < 50 then 0 else 100;");
        z.years(1);
        Check.due("people alive", z.died(0, 1), 2);
        Check.due("a dead PERSON can be told of", z.tell(0, 0, 0, false), 0);
        Check.due("no hedges: look", Check.of("person a 1;").look(0), -2);
    }

    static void slots() {
        FenceSides x = Check.of(PARISH);
        Check.due("hold(-1)", x.hold(-1), false);
        Check.due("hold(3)", x.hold(3), false);
        Check.due("restore(-1)", x.restore(-1), false);
        Check.due("restore(3)", x.restore(3), false);
        Check.due("nothing is held", x.restore(2), false);
        x.clip(0, 0);
        Check.due("hold(2)", x.hold(2), true);
        Check.due("hold is no thing done", x.count(9), 1);
        Check.due("slots", x.count(11), 1);
        x.marry(0, 1);
        x.years(3);
        x.feed(0, 0, 0, 0, 0);
        x.tell(0, 0, 0, true);
        Check.due("nothing is held in 1", x.restore(1), false);
        Check.due("nothing happened", x.count(3), 3);
        Check.due("restore", x.restore(2), true);
        Check.due("the year", x.count(3), 0);
        Check.due("nobody is married", x.count(5), 0);
        Check.due("clipped", x.count(14), 1);
        Check.due("nothing can be undone", x.undo(), false);
        Check.due("the tape stays", x.count(8), 20);
        Check.due("what is TOLD stays", x.count(10), 1);
        x.years(5);
        Check.due("it stays there", x.restore(2), true);
        Check.due("year 0 again", x.count(3), 0);
        x.years(1);
        x.hold(0);
        x.hold(2);
        x.undo();
        Check.due("undone behind the hold", x.count(3), 0);
        x.restore(2);
        Check.due("held anew", x.count(3), 1);
        Check.due("two slots", x.count(11), 2);
        Check.due("restore(0)", x.restore(0), true);
        Check.due("year 1 of it", x.count(3), 1);
    }

    static void count() {
        FenceSides x = Check.of(PARISH + "dies = if age < 63 then 0 else 100;");
        x.marry(2, 3);
        x.clip(2, 2);
        x.years(4);
        x.hold(1);
        x.hold(2);
        x.tell(0, 0, 1, true);
        x.feed(0, 0, 0, 0, 0);
        // ann died at 63: hedge 0 is bob's, hence has a GAP; spouses' hedge 2 has one since the first year.
        int[] want = {4, 4, 3, 4, 14, 12, 5, 0, 20, 3, 1, 2, 28, 28, 4, 34 + 24 + 9, 3, 2};
        for (int what = 0; what < want.length; what++) {
            Check.due("count(" + what + ")", x.count(what), want[what]);
        }
        Check.due("count(18)", x.count(18), -1);
        Check.due("count(-1)", x.count(-1), -1);
        Check.due("count(MIN)", x.count(MIN), -1);
    }

    /** Nothing of an earlier text stays, nor of one with a fault. */
    static void textAfterText() {
        FenceSides x = new FenceSides();
        String full = "field f; field g; field h; person a 90; person b 90; person c 90; hedge f g a b 9; hedge f g b a 8;"
            + "heirs a b c; heirs b c a; heirs c a b; heirs a b c; heirs a b c;"
            + "grows = if 0 < 1 then 7 else 8; dies = if years < 2 then 0 else 100; falls = if 0 < 1 then 1 else 0;"
            + "costs = 2; costs = if 0 < 1 then 3 else 4; seed 5;";
        String[] others = {"field f; field g; person a 1; person b 2; person c 2; hedge f g a b 3;"
            + "heirs c a b; heirs c a b; heirs c a b; heirs c a b; heirs c a b; heirs c a b;", full + " field", "dies = 5; seed 9; field f; field f;"};
        for (int turn = 0; turn < 4; turn++) {
            Check.put(x, full);
            Check.due("the full text", x.read(), 0);
            x.clip(0, 0);
            x.years(2);
            Check.due("clip in year 2", x.clip(1, 0), true);
            Check.due("clip in year 2", x.clip(1, 1), true);
            Check.put(x, others[1]);
            Check.due("a fault", x.read(), 1);
            Check.put(x, others[2]);
            Check.due("another fault", x.read(), 3);
            Check.due("the law stays", x.hedge(0, 9), 3);
            Check.due("the heirs stay", x.person(0, 4), 2);
            Check.put(x, others[0]);
            Check.due("the other text", x.read(), 0);
            Check.due("its FIELDS", x.count(0), 2);
            Check.due("its HEDGES", x.count(2), 1);
            Check.due("a has no heirs", x.person(0, 3), -2);
            Check.due("c has", x.person(2, 3), 0);
            Check.due("GROWS 1", x.hedge(0, 7), 1);
            Check.due("FALLS 0", x.hedge(0, 8), 0);
            Check.due("COSTS high", x.hedge(0, 9), 3);
            Check.due("DIES 0", x.person(0, 6), 0);
            Check.due("clipped: the year", x.hedge(0, 6), 0);
            Check.due("never clipped", x.count(14), 0);
            x.years(1);
            Check.due("all are alive", x.count(4), 7);
            Check.due("clipped: a year", x.hedge(0, 6), 1);
            Check.due("no FACES of nobody's", x.count(7), 0);
        }
        FenceSides seeds = Check.of("person a 1; dies = 50; seed 4711;");
        FenceSides none = Check.of("person a 1; dies = 50;");
        for (int turn = 0; turn < 2; turn++) {
            Check.put(seeds, "person a 1; dies = 50;");
            seeds.read();
        }
        for (int n = 0; n < 9; n++) {
            Check.due("SEED 0 if not told, " + n, seeds.aliveIn(n), none.aliveIn(n));
        }
        FenceSides last = Check.of("seed 3; person a 1; dies = 50; seed 8;");
        FenceSides same = Check.of("person a 1; dies = 50; seed 8;");
        for (int n = 0; n < 9; n++) {
            Check.due("the last SEED, " + n, last.aliveIn(n), same.aliveIn(n));
        }
    }

    /** Hedges, faces and people other than the first ones are told apart. */
    static void everyNumber() {
        FenceSides x = Check.of("field f; field g; field h; person a 11; person b 22; person c 33; hedge f g a b 1; hedge g h b c 2;"
            + "hedge h f c a 3; hedge h g c b 4; heirs b a c; heirs c b a; falls = which - 1; costs = 10 * which + high;");
        int[][] want = {{0, 1, 0, 1, 1}, {1, 2, 1, 2, 2}, {2, 0, 2, 0, 3}, {2, 1, 2, 1, 4}};
        for (int h = 0; h < 4; h++) {
            for (int what = 0; what < 5; what++) {
                Check.due("hedge(" + h + ", " + what + ")", x.hedge(h, what), want[h][what]);
            }
        }
        for (int h = 3; h >= 0; h--) {
            Check.due("FALLS of " + h, x.hedge(h, 8), h > 1 ? 1 : 0);
            Check.due("COSTS of " + (3 - h), x.hedge(3 - h, 9), 10 * (3 - h) + 4 - h);
        }
        Check.due("heir of b", x.person(1, 3), 0);
        Check.due("heir of b to INNER ones", x.person(1, 4), 2);
        Check.due("heir of c", x.person(2, 3), 1);
        Check.due("heir of c to INNER ones", x.person(2, 4), 0);
        Check.due("will for the first PERSON", x.will(1, 0), 1);
        Check.due("will for the last one", x.will(1, 2), 2);
        Check.due("clip by the INNER one", x.clip(1, 3), true);
        Check.due("clip by another", x.clip(0, 3), false);
        Check.due("sell back", x.sell(3, 1, 1), false);
        Check.due("sell", x.sell(3, 0, 0), true);
        Check.due("sold", x.hedge(3, 2), 0);
        x.years(2);
        x.clip(1, 1);
        x.undo();
        Check.due("undone: never clipped", x.hedge(1, 6), 2);
        Check.due("clipped two years ago", x.hedge(3, 6), 2);
        FenceSides spouse = Check.of("field f; field g; person a 1; person b 1; person c 1; hedge f g b b 1; hedge f g a c 1; hedge f g a c 1;");
        spouse.marry(1, 0);
        Check.due("will for the first one as spouse", spouse.will(1, 0), 2);
        Check.due("a is married: c with nobody", spouse.matched(2), -2);
        Check.due("a is married: nothing is joined", spouse.matched(-1), 0);
        FenceSides clip = Check.of("field f; field g; person a 1; person b 1; hedge f g a b 1; costs = clipped; grows = 0;");
        clip.years(3);
        Check.due("clipped in a LAW: the year", clip.hedge(0, 9), 3);
        clip.clip(0, 0);
        clip.years(2);
        Check.due("clipped in a LAW: since then", clip.hedge(0, 9), 2);
        FenceSides line = Check.of("field f; field g; person a 1; person b 1; person c 1; person d 1; hedge f g a a 1; hedge f g d d 1; hedge f g c c 1; heirs d a c;");
        Check.due("each answer by itself", line.look(0), 0);
        line.tell(0, 0, 0, true);
        Check.due("b, c or d: d's by its FACE, c's alike", line.look(1), 10);
    }
}
