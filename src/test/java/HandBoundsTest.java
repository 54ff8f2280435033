/**
 * The boundary cases of what is, and of what is done by hand (promises 1, 6 to 13): numbers too small and too large,
 * calls that are refused, by which nothing happens, and what can be undone.
 */
public final class HandBoundsTest {
    static final int MIN = Integer.MIN_VALUE;
    static final int MAX = Integer.MAX_VALUE;
    static final String PAIR = "field f;field g;person a 20;person b 30;";
    static final String WIDOW = "field f;field g;person a 90;person b 30;person c 20;person d 99;hedge f g a b 5;hedge g f b d 6;"
        + "dies=if age<90 then 0 else 100;";

    public static void main(String[] args) {
        nothingInANewObject();
        hedgeNumbers();
        hedgeWhats();
        personNumbers();
        personWhats();
        clipRefused();
        clipTaken();
        sellRefused();
        sellTaken();
        closeRefused();
        closeTaken();
        marryRefused();
        marryTaken();
        aWidowIsNotMarried();
        yearsRefused();
        yearsTaken();
        undoOfNothing();
        undoOf40();
        undoOfEach();
        undoIsNoThingDone();
        Check.end("HandBoundsTest");
    }

    // ---- promise 1

    static void nothingInANewObject() {
        FenceSides x = new FenceSides();
        Check.due("promise 1: no FIELDS", x.count(0), 0);
        Check.due("promise 1: no PEOPLE", x.count(1), 0);
        Check.due("promise 1: no HEDGES", x.count(2), 0);
        Check.due("promise 1: hedge(0, 0)", x.hedge(0, 0), -1);
        Check.due("promise 1: person(0, 0)", x.person(0, 0), -1);
        Check.due("promise 1: clip(0, 0)", x.clip(0, 0), false);
        Check.due("promise 1: sell(0, 0, 0)", x.sell(0, 0, 0), false);
        Check.due("promise 1: close(0, 0)", x.close(0, 0), false);
        Check.due("promise 1: marry(0, 1)", x.marry(0, 1), false);
        Check.due("promise 1: undo", x.undo(), false);
        Check.due("promise 1: crosses(0, 0)", x.crosses(0, 0), -1);
        Check.due("promise 1: ask(0, 0, 0, 0)", x.ask(0, 0, 0, 0), -1);
        Check.due("promise 1: open(0, 0)", x.open(0, 0), -1);
        Check.due("promise 1: shut(0)", x.shut(0), -1);
        Check.due("promise 1: matched(-1)", x.matched(-1), 0);
        Check.due("promise 1: matched(0)", x.matched(0), -1);
        Check.due("promise 1: will(0, 1)", x.will(0, 1), -1);
        Check.due("promise 1: highest(60, 0)", x.highest(60, 0), -2);
        Check.due("promise 1: highest(0, 1)", x.highest(0, 1), -2);
        Check.due("promise 1: due(0)", x.due(0), -1);
        Check.due("promise 1: buy(0, 0, 0)", x.buy(0, 0, 0), -1);
        Check.due("promise 1: gates(0, 0, 0)", x.gates(0, 0, 0), -1);
        Check.due("promise 1: line(0, 0, 0)", x.line(0, 0, 0), -1);
        Check.due("promise 1: eldest(0)", x.eldest(0), -2);
        Check.due("promise 1: eldest(1)", x.eldest(1), -2);
        Check.due("promise 1: ones", x.ones(), 0);
        Check.due("promise 1: neighbours(0)", x.neighbours(0), -1);
        Check.due("promise 1: between(0, 0)", x.between(0, 0), -1);
        Check.due("promise 1: gaps(60)", x.gaps(60), 0);
        Check.due("promise 1: most(0)", x.most(0), -2);
        Check.due("promise 1: most(1)", x.most(1), -2);
        Check.due("promise 1: whose(0, 0, 0)", x.whose(0, 0, 0), -1);
        Check.due("promise 1: then(0, 0, 0)", x.then(0, 0, 0), -1);
        Check.due("promise 1: aliveIn(60)", x.aliveIn(60), 0);
        Check.due("promise 1: year(0, 0, 1)", x.year(0, 0, 1), -1);
        Check.due("promise 1: tell(0, 0, 0, true)", x.tell(0, 0, 0, true), -1);
        Check.due("promise 1: forget", x.forget(), 0);
        Check.due("promise 1: died(0, 0)", x.died(0, 0), 0);
        Check.due("promise 1: died(0, 1)", x.died(0, 1), 0);
        Check.due("promise 1: died(1, 0)", x.died(1, 0), -1);
        Check.due("promise 1: look(0)", x.look(0), -2);
        Check.due("promise 1: look(1)", x.look(1), -1);
        for (int slot = 0; slot < 3; slot++) {
            Check.due("promise 1: restore(" + slot + ")", x.restore(slot), false);
        }
        for (int what = 0; what <= 17; what++) {
            Check.due("promise 1: count(" + what + ")", x.count(what), 0);
        }
        Check.due("promise 1: place", x.place(), -1);
        Check.due("promise 1: years(60)", x.years(60), 60);
        Check.due("promise 1: undo of it", x.undo(), true);
        Check.due("promise 1: the year", x.count(3), 0);
        Check.due("promise 1: hold", x.hold(2), true);
        Check.due("promise 1: restore", x.restore(2), true);
        Check.due("promise 1: NONE", FenceSides.NONE, -1);
    }

    // ---- promises 6 and 7

    static void hedgeNumbers() {
        FenceSides x = Check.of(Twin.TEXT);
        for (int h : new int[] {MIN, -2, -1, 10, 11, 20, 31, 32, MAX}) {
            for (int what = 0; what <= 9; what++) {
                Check.due("promise 6: hedge(" + h + ", " + what + ")", x.hedge(h, what), -1);
            }
        }
        FenceSides one = Check.of(PAIR + "hedge f g a b 7;");
        Check.due("promise 6: the one HEDGE", one.hedge(0, 4), 7);
        Check.due("promise 6: no second", one.hedge(1, 4), -1);
        Check.due("promise 6: none ahead", one.hedge(-1, 4), -1);
        Check.due("promise 6: no HEDGES", Check.of(PAIR).hedge(0, 0), -1);
    }

    static void hedgeWhats() {
        FenceSides x = Check.of(Twin.TEXT);
        int[] first = {0, 1, 0, 1, 10, 0, 0, 2, 0, 10};
        int[] last = {2, 6, 4, 5, 60, 0, 0, 2, 0, 69};
        for (int what = 0; what <= 9; what++) {
            Check.due("promise 6: the first HEDGE, what " + what, x.hedge(0, what), first[what]);
            Check.due("promise 6: the last HEDGE, what " + what, x.hedge(9, what), last[what]);
        }
        for (int what : new int[] {MIN, -2, -1, 10, 11, MAX}) {
            Check.due("promise 6: what " + what, x.hedge(0, what), -1);
        }
        FenceSides rich = Twin.rich();
        Check.due("promise 6: OUTER is nobody's", rich.hedge(5, 2), -2);
        Check.due("promise 6: INNER is nobody's", rich.hedge(6, 3), -2);
        Check.due("promise 6: a GAP", rich.hedge(6, 5), 1);
        Check.due("promise 6: no GAP, closed", rich.hedge(4, 5), 0);
        Check.due("promise 6: clipped as it was closed", rich.hedge(4, 6), 0);
        Check.due("promise 6: clipped two years ago", rich.hedge(0, 6), 2);
        Check.due("promise 6: never clipped", rich.hedge(1, 6), 3);
    }

    static void personNumbers() {
        FenceSides x = Check.of(Twin.TEXT);
        for (int p : new int[] {MIN, -2, -1, 6, 7, 31, 32, MAX}) {
            for (int what = 0; what <= 6; what++) {
                Check.due("promise 7: person(" + p + ", " + what + ")", x.person(p, what), -1);
            }
        }
        FenceSides one = Check.of("person a 7;");
        Check.due("promise 7: the one PERSON", one.person(0, 0), 7);
        Check.due("promise 7: no second", one.person(1, 0), -1);
        Check.due("promise 7: none ahead", one.person(-1, 0), -1);
        Check.due("promise 7: no PEOPLE", Check.of("field f;").person(0, 0), -1);
    }

    static void personWhats() {
        FenceSides x = Check.of(Twin.TEXT);
        int[] first = {85, 1, -2, 1, 2, 3, 0};
        int[] last = {99, 1, -2, -2, -2, 3, 100};
        for (int what = 0; what <= 6; what++) {
            Check.due("promise 7: the first PERSON, what " + what, x.person(0, what), first[what]);
            Check.due("promise 7: the last PERSON, what " + what, x.person(5, what), last[what]);
        }
        for (int what : new int[] {MIN, -2, -1, 7, 8, MAX}) {
            Check.due("promise 7: what " + what, x.person(0, what), -1);
        }
        FenceSides rich = Twin.rich();
        Check.due("promise 7: dead: AGE as they died", rich.person(5, 0), 99);
        Check.due("promise 7: dead", rich.person(5, 1), 0);
        Check.due("promise 7: dead: no FACES", rich.person(5, 5), 0);
        Check.due("promise 7: the spouse", rich.person(1, 2), 2);
        Check.due("promise 7: the spouse's", rich.person(2, 2), 1);
        FenceSides widow = Check.of(WIDOW);
        widow.marry(0, 1);
        widow.years(1);
        Check.due("promise 7: the spouse, dead", widow.person(1, 2), 0);
        Check.due("promise 7: of a dead one the spouse, alive", widow.person(0, 2), 1);
        Check.due("promise 7: the heir to no FACES", widow.person(1, 3), -2);
    }

    // ---- promises 8 to 11

    static void clipRefused() {
        for (int p : new int[] {MIN, -2, -1, 6, 7, MAX}) {
            Twin.refused("promise 8: no such PERSON, clip(" + p + ", 0)", 0, x -> x.clip(p, 0) ? 1 : 0);
        }
        for (int h : new int[] {MIN, -1, 10, 11, MAX}) {
            Twin.refused("promise 8: no such HEDGE, clip(0, " + h + ")", 0, x -> x.clip(0, h) ? 1 : 0);
        }
        Twin.refused("promise 8: nobody clips what is nobody's", 0, x -> x.clip(-2, 5) ? 1 : 0);
        Twin.refused("promise 8: not alive", 0, x -> x.clip(5, 5) ? 1 : 0);
        Twin.refused("promise 8: no FACE of it is theirs", 0, x -> x.clip(2, 0) ? 1 : 0);
        Twin.refused("promise 8: the spouse's FACE is not theirs", 0, x -> x.clip(2, 7) ? 1 : 0);
        Twin.refused("promise 8: no FACE of the last one is theirs", 0, x -> x.clip(0, 9) ? 1 : 0);
    }

    static void clipTaken() {
        for (int by : new int[] {0, 1}) {
            FenceSides x = Check.of(PAIR + "hedge f g a b 99;hedge g f a b 98;");
            x.years(1);
            Check.due("promise 8: clip by " + by, x.clip(by, 0), true);
            Check.due("promise 8: HIGH 0", x.hedge(0, 4), 0);
            Check.due("promise 8: clipped", x.hedge(0, 6), 0);
            Check.due("promise 8: the other one stays", x.hedge(1, 4), 99);
            Check.due("promise 8: one thing more", x.count(9), 2);
            Check.due("promise 8: clip of one HIGH 0", x.clip(by, 0), true);
            Check.due("promise 8: it is a thing done", x.count(9), 3);
        }
        for (int p = 0; p < 6; p++) {
            FenceSides each = Check.of(Twin.TEXT);
            for (int h = 0; h < 10; h++) {
                boolean theirs = each.hedge(h, 2) == p || each.hedge(h, 3) == p;
                Check.due("promise 8: clip(" + p + ", " + h + ")", each.clip(p, h), theirs);
            }
        }
        FenceSides full = Check.of(Twin.TEXT);
        Check.due("promise 8: the last PERSON, the last HEDGE", full.clip(5, 9), true);
        Check.due("promise 8: its HIGH", full.hedge(9, 4), 0);
        Check.due("promise 41: ever clipped", full.count(14), 512);
    }

    static void sellRefused() {
        for (int h : new int[] {MIN, -1, 10, 11, MAX}) {
            Twin.refused("promise 9: no such HEDGE " + h, 0, x -> x.sell(h, 0, 3) ? 1 : 0);
        }
        for (int face : new int[] {MIN, -1, 2, 3, MAX}) {
            Twin.refused("promise 9: no such FACE " + face, 0, x -> x.sell(1, face, 3) ? 1 : 0);
        }
        for (int p : new int[] {MIN, -2, -1, 6, 7, MAX}) {
            Twin.refused("promise 9: no such PERSON " + p, 0, x -> x.sell(1, 0, p) ? 1 : 0);
        }
        Twin.refused("promise 9: the OUTER FACE is theirs", 0, x -> x.sell(1, 0, 0) ? 1 : 0);
        Twin.refused("promise 9: the INNER FACE is theirs", 0, x -> x.sell(1, 1, 2) ? 1 : 0);
        Twin.refused("promise 9: they are not alive", 0, x -> x.sell(1, 0, 5) ? 1 : 0);
        Twin.refused("promise 9: nobody's, they are not alive", 0, x -> x.sell(5, 0, 5) ? 1 : 0);
        Twin.refused("promise 9: nobody's to nobody", 0, x -> x.sell(5, 0, -2) ? 1 : 0);
    }

    static void sellTaken() {
        FenceSides x = Twin.rich();
        Check.due("promise 9: OUTER", x.sell(1, 0, 2), true);
        Check.due("promise 9: whose it is", x.hedge(1, 2), 2);
        Check.due("promise 9: the INNER one stays", x.hedge(1, 3), 2);
        Check.due("promise 9: INNER", x.sell(0, 1, 4), true);
        Check.due("promise 9: whose the INNER one is", x.hedge(0, 3), 4);
        Check.due("promise 9: the OUTER one stays", x.hedge(0, 2), 0);
        Check.due("promise 9: nobody's too", x.sell(5, 0, 0), true);
        Check.due("promise 9: no longer nobody's", x.hedge(5, 2), 0);
        Check.due("promise 9: of a HEDGE with a GAP", x.sell(6, 1, 4), true);
        Check.due("promise 9: the last HEDGE", x.sell(9, 1, 4), true);
        Check.due("promise 9: the first HEDGE", x.sell(0, 0, 4), true);
        FenceSides full = Check.of(Twin.TEXT);
        Check.due("promise 9: to the last PERSON", full.sell(0, 0, 5), true);
        Check.due("promise 9: to the first PERSON", full.sell(9, 1, 0), true);
        Check.due("promise 9: theirs", full.hedge(9, 3), 0);
    }

    static void closeRefused() {
        for (int p : new int[] {MIN, -2, -1, 6, 7, MAX}) {
            Twin.refused("promise 10: no such PERSON " + p, 0, x -> x.close(p, 6) ? 1 : 0);
        }
        for (int h : new int[] {MIN, -1, 10, 11, MAX}) {
            Twin.refused("promise 10: no such HEDGE " + h, 0, x -> x.close(1, h) ? 1 : 0);
        }
        Twin.refused("promise 10: no GAP", 0, x -> x.close(0, 0) ? 1 : 0);
        Twin.refused("promise 10: no GAP any more", 0, x -> x.close(4, 4) ? 1 : 0);
        Twin.refused("promise 10: not alive", 0, x -> x.close(5, 6) ? 1 : 0);
        Twin.refused("promise 10: no FACE of it is theirs", 0, x -> x.close(0, 6) ? 1 : 0);
        Twin.refused("promise 10: the spouse's FACE is not theirs", 0, x -> x.close(2, 6) ? 1 : 0);
    }

    static void closeTaken() {
        FenceSides x = Twin.rich();
        Check.due("promise 10: CLOSED", x.close(1, 6), true);
        Check.due("promise 10: no GAP", x.hedge(6, 5), 0);
        Check.due("promise 10: HIGH 0", x.hedge(6, 4), 0);
        Check.due("promise 10: clipped", x.hedge(6, 6), 0);
        Check.due("promise 41: ever clipped", x.count(14), 1 + 16 + 64);
        Check.due("promise 10: not twice", x.close(1, 6), false);
        for (int p = 0; p < 6; p++) {
            FenceSides each = Check.of(Twin.TEXT + "falls=1;dies=0;");
            each.years(1);
            for (int h = 0; h < 10; h++) {
                boolean theirs = each.hedge(h, 2) == p || each.hedge(h, 3) == p;
                Check.due("promise 10: close(" + p + ", " + h + ")", each.close(p, h), theirs);
                Check.due("promise 10: GAP of " + h + " behind it", each.hedge(h, 5), theirs ? 0 : 1);
            }
        }
        FenceSides inner = Check.of(PAIR + "hedge f g a b 9;falls = 1;");
        inner.years(1);
        Check.due("promise 10: by whose the INNER FACE is", inner.close(1, 0), true);
        inner.years(1);
        Check.due("promise 10: it falls again", inner.hedge(0, 5), 1);
        Check.due("promise 10: by whose the OUTER FACE is", inner.close(0, 0), true);
    }

    static void marryRefused() {
        for (int p : new int[] {MIN, -2, -1, 6, 7, MAX}) {
            Twin.refused("promise 11: no such PERSON " + p, 0, x -> x.marry(p, 0) ? 1 : 0);
            Twin.refused("promise 11: no such other " + p, 0, x -> x.marry(0, p) ? 1 : 0);
        }
        Twin.refused("promise 11: both no such ones", 0, x -> x.marry(-1, 6) ? 1 : 0);
        Twin.refused("promise 11: one and the same", 0, x -> x.marry(0, 0) ? 1 : 0);
        Twin.refused("promise 11: one and the same, the last", 0, x -> x.marry(4, 4) ? 1 : 0);
        Twin.refused("promise 11: not alive", 0, x -> x.marry(5, 0) ? 1 : 0);
        Twin.refused("promise 11: the other is not alive", 0, x -> x.marry(0, 5) ? 1 : 0);
        Twin.refused("promise 11: married", 0, x -> x.marry(1, 0) ? 1 : 0);
        Twin.refused("promise 11: the other is married", 0, x -> x.marry(0, 2) ? 1 : 0);
        Twin.refused("promise 11: with one another", 0, x -> x.marry(1, 2) ? 1 : 0);
        Twin.refused("promise 11: with one another, again", 0, x -> x.marry(2, 1) ? 1 : 0);
    }

    static void marryTaken() {
        FenceSides x = Twin.rich();
        Check.due("promise 11: the first and the last alive", x.marry(4, 0), true);
        Check.due("promise 11: the spouse", x.person(4, 2), 0);
        Check.due("promise 11: the spouse's", x.person(0, 2), 4);
        Check.due("promise 41: married", x.count(5), 1 + 2 + 4 + 16);
        Check.due("promise 11: nobody is left for pd", x.marry(3, 0), false);
        FenceSides full = Check.of(Twin.TEXT);
        Check.due("promise 11: the last PERSON", full.marry(0, 5), true);
        Check.due("promise 41: the two", full.count(5), 33);
    }

    static void aWidowIsNotMarried() {
        FenceSides x = Check.of(WIDOW);
        x.marry(0, 1);
        x.marry(3, 2);
        Check.due("promise 41: four are married", x.count(5), 15);
        x.years(1);
        Check.due("promise 41: two are alive", x.count(4), 6);
        Check.due("promise 41: widows are not married", x.count(5), 0);
        Check.due("promise 11: not with the dead one again", x.marry(0, 1), false);
        Check.due("promise 11: not with a dead other", x.marry(1, 3), false);
        Check.due("promise 11: two widows", x.marry(1, 2), true);
        Check.due("promise 41: they are married", x.count(5), 6);
        Check.due("promise 11: the new spouse", x.person(1, 2), 2);
        Check.due("promise 11: not twice", x.marry(2, 1), false);
    }

    // ---- promises 12 and 13

    static void yearsRefused() {
        for (int n : new int[] {MIN, -60, -2, -1, 61, 62, 100, MAX}) {
            Twin.refused("promise 12: no such n, years(" + n + ")", -1, x -> x.years(n));
        }
        Twin.refused("promise 12: years(0) is no thing done", 3, x -> x.years(0));
    }

    static void yearsTaken() {
        FenceSides x = Check.of(PAIR);
        Check.due("promise 12: years(0) in year 0", x.years(0), 0);
        Check.due("promise 12: nothing to undo", x.undo(), false);
        Check.due("promise 12: years(1)", x.years(1), 1);
        Check.due("promise 12: years(59)", x.years(59), 60);
        Check.due("promise 12: years(60)", x.years(60), 120);
        Check.due("promise 12: each is one thing done", x.count(9), 3);
        Check.due("promise 12: undo of 60", x.undo(), true);
        Check.due("promise 12: year 60", x.count(3), 60);
        FenceSides two = Twin.rich();
        FenceSides ones = Twin.rich();
        two.years(2);
        ones.years(1);
        ones.years(1);
        for (int h = 0; h < 10; h++) {
            Check.due("promise 12: two YEARS are twice one, HEDGE " + h, two.hedge(h, 4), ones.hedge(h, 4));
        }
    }

    static void undoOfNothing() {
        FenceSides x = Check.of(PAIR + "hedge f g a b 9;");
        Check.due("promise 13: there is none", x.undo(), false);
        x.clip(0, 0);
        Check.due("promise 13: there is one", x.undo(), true);
        Check.due("promise 13: there is none any more", x.undo(), false);
        Check.due("promise 13: nothing happens then", x.hedge(0, 4), 9);
        x.years(0);
        x.clip(9, 9);
        x.tell(0, 0, 0, true);
        x.hold(0);
        x.forget();
        x.feed(0, 0, 0, 0, 0);
        x.back(20);
        Check.due("promise 13: none of these is a thing done", x.undo(), false);
    }

    static void undoOf40() {
        for (int things : new int[] {1, 39, 40, 41, 42, 79, 80, 81, 120}) {
            FenceSides x = Check.of(PAIR);
            for (int i = 0; i < things; i++) {
                x.years(1);
            }
            int most = Math.min(40, things);
            Check.due("promise 41: that can be undone of " + things, x.count(9), most);
            for (int i = 1; i <= most; i++) {
                Check.due("promise 13: " + i + " of " + things, x.undo(), true);
                Check.due("promise 13: the year behind " + i + " of " + things, x.count(3), things - i);
                Check.due("promise 41: left behind " + i + " of " + things, x.count(9), most - i);
            }
            Check.due("promise 13: no more of " + things, x.undo(), false);
            Check.due("promise 13: the year then", x.count(3), things - most);
        }
        FenceSides y = Check.of(PAIR);
        for (int i = 0; i < 20; i++) {
            y.years(1);
        }
        for (int i = 0; i < 10; i++) {
            y.undo();
        }
        Check.due("promise 41: 10 of 20 are left", y.count(9), 10);
        for (int i = 0; i < 35; i++) {
            y.years(1);
        }
        Check.due("promise 41: 40 of 45", y.count(9), 40);
        for (int i = 0; i < 40; i++) {
            y.undo();
        }
        Check.due("promise 13: year 5", y.count(3), 5);
        Check.due("promise 13: no more", y.undo(), false);
    }

    static void undoOfEach() {
        Twin.Deed[] deeds = {x -> x.clip(0, 0) ? 1 : 0, x -> x.sell(5, 0, 4) ? 1 : 0, x -> x.close(1, 6) ? 1 : 0,
            x -> x.marry(0, 3) ? 1 : 0, x -> x.years(60) == 63 ? 1 : 0, x -> x.years(1) == 4 ? 1 : 0};
        String[] names = {"clip", "sell", "close", "marry", "years(60)", "years(1)"};
        for (int i = 0; i < deeds.length; i++) {
            FenceSides x = Twin.rich();
            Check.due("promise 13: " + names[i], deeds[i].on(x), 1);
            Check.due("promise 13: undo of " + names[i], x.undo(), true);
            Twin.alike("promise 13: " + names[i] + " undone", x, Twin.rich());
        }
    }

    static void undoIsNoThingDone() {
        FenceSides x = Check.of(PAIR + "hedge f g a b 9;");
        x.years(1);
        x.clip(0, 0);
        x.undo();
        Check.due("promise 41: one is left", x.count(9), 1);
        x.undo();
        Check.due("promise 13: the one ahead of it", x.count(3), 0);
        x.marry(0, 1);
        Check.due("promise 41: another one", x.count(9), 1);
        x.undo();
        Check.due("promise 13: not the clip again", x.hedge(0, 4), 9);
        Check.due("promise 13: there is none", x.undo(), false);
    }
}
