/**
 * The boundary cases of what is TOLD, of SLOTS and of counts ('Terms', IV, and promises 35 to 41), and of how long an
 * object is used ('What it is', 'Not promised').
 */
public final class ToldBoundsTest {
    static final int MIN = Integer.MIN_VALUE;
    static final int MAX = Integer.MAX_VALUE;
    static final String PAIR = "field f;field g;person a 20;person b 30;";

    public static void main(String[] args) {
        tellRefused();
        tellUpTo20();
        forgetAll();
        diedNumbers();
        knownByK();
        diedOfNobody();
        diedWithADeadHeir();
        lookNumbers();
        lookNone();
        lookAtWorst();
        holdRefused();
        holdTaken();
        restoreRefused();
        restoreTaken();
        restoreOfEach();
        countNumbers();
        countsFull();
        countsOfTheLast();
        countsEmpty();
        usedFor512Calls();
        Check.end("ToldBoundsTest");
    }

    // ---- promises 35 to 38

    static void tellRefused() {
        for (int h : new int[] {MIN, -1, 10, 11, MAX}) {
            Twin.refused("promise 35: no such HEDGE " + h, -1, x -> x.tell(h, 0, 0, true));
        }
        for (int face : new int[] {MIN, -1, 2, 3, MAX}) {
            Twin.refused("promise 35: no such FACE " + face, -1, x -> x.tell(0, face, 0, false));
        }
        for (int p : new int[] {MIN, -2, -1, 6, 7, MAX}) {
            Twin.refused("promise 35: no such PERSON " + p, -1, x -> x.tell(0, 0, p, true));
            Twin.refused("promise 35: no such PERSON " + p + ", not so", -1, x -> x.tell(0, 0, p, false));
        }
        FenceSides x = Check.of(Twin.TEXT);
        Check.due("promise 35: the first ones", x.tell(0, 0, 0, true), 0);
        Check.due("promise 35: the last ones", x.tell(9, 1, 5, false), 1);
    }

    static void tellUpTo20() {
        FenceSides x = Check.of(Twin.TEXT);
        for (int i = 0; i < 20; i++) {
            Check.due("promise 41: TOLD ones", x.count(10), i);
            Check.due("promise 35: its number", x.tell(0, 0, 0, true), i);
        }
        Check.due("promise 41: 20", x.count(10), 20);
        Check.due("promise 35: 20 are there", x.tell(0, 0, 0, false), -1);
        Check.due("promise 35: nothing happens", x.count(10), 20);
        Check.due("promise 37: all 20 known, pa is not it", x.died(20, 1), 62);
        Check.due("promise 37: no 21", x.died(21, 1), -1);
        Check.due("promise 36: how many there were", x.forget(), 20);
        Check.due("promise 35: from 0 on again", x.tell(0, 0, 0, false), 0);
        Check.due("promise 37: pa alone", x.died(1, 1), 1);
        FenceSides twentieth = Check.of(Twin.TEXT);
        for (int i = 0; i < 19; i++) {
            twentieth.tell(0, 0, 0, true);
        }
        twentieth.tell(9, 1, 5, true);
        Check.due("promise 37: the 20th counts", twentieth.died(20, 1), 30);
        Check.due("promise 37: not by 19", twentieth.died(19, 1), 62);
    }

    static void forgetAll() {
        FenceSides x = Check.of(Twin.TEXT);
        Check.due("promise 36: none", x.forget(), 0);
        x.tell(0, 0, 0, true);
        Check.due("promise 36: one", x.forget(), 1);
        Check.due("promise 36: it is forgotten", x.count(10), 0);
        Check.due("promise 36: none any more", x.forget(), 0);
        Check.due("promise 37: nothing is known", x.died(1, 0), -1);
        Check.due("promise 38: nothing is known", x.look(1), -1);
        Check.due("promise 37: all may be it", x.died(0, 1), 63);
    }

    static void diedNumbers() {
        FenceSides x = Check.of(Twin.TEXT);
        Check.due("promise 37: by 0, how many", x.died(0, 0), 6);
        Check.due("promise 37: by 0, which", x.died(0, 1), 63);
        Check.due("promise 37: by 1 of none", x.died(1, 0), -1);
        x.tell(0, 0, 0, true);
        x.tell(0, 1, 1, true);
        x.tell(9, 0, 4, true);
        int[] many = {6, 5, 4, 3};
        int[] which = {63, 62, 60, 44};
        for (int k = 0; k <= 3; k++) {
            Check.due("promise 37: by " + k + ", how many", x.died(k, 0), many[k]);
            Check.due("promise 37: by " + k + ", which", x.died(k, 1), which[k]);
        }
        for (int k : new int[] {MIN, -2, -1, 4, 5, 20, 21, MAX}) {
            Check.due("promise 37: no such k, " + k, x.died(k, 0), -1);
        }
        for (int what : new int[] {MIN, -2, -1, 2, 3, MAX}) {
            Check.due("promise 37: no such what, " + what, x.died(0, what), -1);
        }
    }

    static void knownByK() {
        FenceSides x = Check.of(Twin.TEXT);
        x.tell(0, 0, 1, true);
        x.tell(0, 0, 1, false);
        Check.due("promise 37: pa it was, by 1", x.died(1, 1), 1);
        Check.due("promise 37: nobody, by 2", x.died(2, 1), 0);
        Check.due("promise 37: none, by 2", x.died(2, 0), 0);
        x.forget();
        x.tell(5, 0, 5, false);
        Check.due("promise 37: left to nobody", x.died(1, 1), 32);
        x.forget();
        x.tell(5, 1, 2, true);
        Check.due("promise 37: left to the heir to INNER", x.died(1, 1), 1);
    }

    static void diedOfNobody() {
        FenceSides x = Twin.rich();
        Check.due("promise 37: people alive", x.died(0, 1), 31);
        x.forget();
        x.tell(5, 0, 0, false);
        Check.due("promise 37: nobody's is not theirs", x.died(1, 1), 31);
        x.forget();
        x.tell(5, 0, 0, true);
        Check.due("promise 37: nobody's is never theirs", x.died(1, 0), 0);
        FenceSides gone = Check.of(AskBoundsTest.GONE);
        gone.years(1);
        Check.due("promise 37: nobody is alive, how many", gone.died(0, 0), 0);
        Check.due("promise 37: nobody is alive, which", gone.died(0, 1), 0);
        Check.due("promise 38: nobody is alive", gone.look(0), -2);
    }

    /** What one who dies LEAVES: to the heir, to the spouse if that one is not alive, else to nobody. */
    static void diedWithADeadHeir() {
        String text = "field f;field g;person a 90;person b 30;person c 20;person d 10;hedge f g b c 1;hedge f g c b 1;heirs b a d;heirs c d a;"
            + AskBoundsTest.OLD;
        FenceSides x = Check.of(text);
        x.marry(1, 2);
        x.tell(0, 0, 0, true);
        Check.due("promise 37: b's OUTER FACE to the heir", x.died(1, 1), 2);
        x.years(1);
        Check.due("promise 37: the heir is dead", x.died(1, 1), 0);
        x.forget();
        x.tell(0, 0, 2, true);
        Check.due("promise 37: to the spouse then", x.died(1, 1), 2);
        x.forget();
        x.tell(1, 1, 3, true);
        Check.due("promise 37: b's INNER FACE to the heir to INNER", x.died(1, 1), 2);
        FenceSides y = Check.of(text);
        y.years(1);
        y.tell(0, 0, 1, false);
        Check.due("promise 37: b's is not b's", y.died(1, 1), 2);
        y.tell(0, 0, 2, false);
        y.tell(0, 0, 3, false);
        Check.due("promise 37: no heir alive, no spouse: nobody's", y.died(3, 1), 2);
    }

    static void lookNumbers() {
        FenceSides x = Check.of(PAIR + "hedge f g a b 1;");
        Check.due("promise 38: by 0", x.look(0), 0);
        for (int k : new int[] {MIN, -2, -1, 1, 2, MAX}) {
            Check.due("promise 38: no such k, " + k, x.look(k), -1);
        }
        x.tell(0, 0, 0, true);
        Check.due("promise 38: by 1", x.look(1), 0);
        Check.due("promise 38: by 2", x.look(2), -1);
    }

    static void lookNone() {
        FenceSides x = Check.of(PAIR + "hedge f g a b 1;");
        x.tell(0, 0, 1, true);
        Check.due("promise 38: none is left", x.look(1), -2);
        Check.due("promise 38: some are left by 0", x.look(0), 0);
        Check.due("promise 38: no HEDGES", Check.of(PAIR).look(0), -2);
        Check.due("promise 38: no PEOPLE", Check.of("field f;").look(0), -2);
    }

    static void lookAtWorst() {
        String three = "field f;field g;person a 1;person b 1;person c 1;person d 1;";
        // Whose the FACE is tells the dead one of four only in two sorts: its owner or not; the heirs tell no more.
        Check.due("promise 38: alike, the first HEDGE, OUTER", Check.of(three + "hedge f g a b 1;hedge f g c d 1;").look(0), 0);
        FenceSides x = Check.of(three + "hedge f g a a 1;hedge f g a b 1;hedge f g c d 1;");
        x.tell(0, 0, 0, true);
        Check.due("promise 38: b, c or d: the first that parts them", x.look(1), 11);
        x.tell(1, 1, 1, true);
        Check.due("promise 38: c or d: OUTER first", x.look(2), 20);
        x.tell(2, 0, 2, true);
        Check.due("promise 38: d alone: the first of all", x.look(3), 0);
        FenceSides nobody = Check.of("field f;field g;" + TextBoundsTest.people(6) + "hedge f g pa pa 1;hedge f g pa pf 1;");
        nobody.tell(0, 0, 0, true);
        Check.due("promise 38: nobody's is another answer than the last PERSON's", nobody.look(1), 11);
        FenceSides last = Check.of(three + "hedge f g a a 1;".repeat(9) + "hedge f g a b 1;");
        last.tell(0, 0, 0, true);
        Check.due("promise 38: the last HEDGE, INNER", last.look(1), 91);
    }

    // ---- promises 39 and 40

    static void holdRefused() {
        for (int slot : new int[] {MIN, -2, -1, 3, 4, 32, MAX}) {
            Twin.refused("promise 39: no such SLOT " + slot, 0, x -> x.hold(slot) ? 1 : 0);
        }
    }

    static void holdTaken() {
        for (int slot = 0; slot < 3; slot++) {
            FenceSides x = Check.of(PAIR + "hedge f g a b 9;");
            x.years(2);
            Check.due("promise 39: SLOT " + slot, x.hold(slot), true);
            Check.due("promise 41: one SLOT", x.count(11), 1);
            Check.due("promise 39: hold is no thing done", x.count(9), 1);
            x.clip(0, 0);
            Check.due("promise 39: held again", x.hold(slot), true);
            Check.due("promise 41: one SLOT still", x.count(11), 1);
            x.years(1);
            Check.due("promise 40: from SLOT " + slot, x.restore(slot), true);
            Check.due("promise 40: what was held last", x.hedge(0, 4), 0);
            for (int other = 0; other < 3; other++) {
                Check.due("promise 40: SLOT " + other + " of " + slot, x.restore(other), other == slot);
            }
        }
        FenceSides three = Check.of(PAIR);
        for (int slot = 0; slot < 3; slot++) {
            three.years(1);
            three.hold(slot);
            Check.due("promise 41: SLOTS that hold something", three.count(11), slot + 1);
        }
        for (int slot = 0; slot < 3; slot++) {
            three.restore(slot);
            Check.due("promise 40: each SLOT its own, " + slot, three.count(3), slot + 1);
        }
    }

    static void restoreRefused() {
        for (int slot : new int[] {MIN, -2, -1, 3, 4, 32, 33, MAX}) {
            Twin.refused("promise 40: no such SLOT " + slot, 0, x -> x.restore(slot) ? 1 : 0);
        }
        Twin.refused("promise 40: nothing is held", 0, x -> x.restore(0) ? 1 : 0);
    }

    static void restoreTaken() {
        FenceSides x = Twin.rich();
        x.years(60);
        Check.due("promise 40: from SLOT 2", x.restore(2), true);
        Check.due("promise 40: nothing can be undone then", x.count(9), 0);
        Check.due("promise 40: nothing can be undone", x.undo(), false);
        Check.due("promise 40: what is TOLD stays", x.count(10), 3);
        Check.due("promise 40: the tape stays", x.count(8), 20);
        Check.due("promise 40: the year", x.count(3), 3);
        Check.due("promise 40: who is alive", x.count(4), 31);
        Check.due("promise 40: who is married", x.count(5), 6);
        Check.due("promise 40: GAPS", x.count(6), 64);
        Check.due("promise 40: ever clipped", x.count(14), 17);
        Check.due("promise 40: it goes on", x.years(1), 4);
        Check.due("promise 40: that can be undone", x.undo(), true);
        Check.due("promise 40: the year it went on from", x.count(3), 3);
        x.clip(0, 0);
        Check.due("promise 40: that stays there", x.restore(2), true);
        Check.due("promise 40: as it was held", x.hedge(0, 4), 4);
        Check.due("promise 40: from SLOT 1", x.restore(1), true);
        Check.due("promise 40: year 1", x.count(3), 1);
        Check.due("promise 40: GAPS of year 1", x.count(6), 16 + 64);
        Check.due("promise 40: FACES that are nobody's then", x.count(7), 2);
        Check.due("promise 40: and back to SLOT 2", x.restore(2), true);
        Check.due("promise 40: year 3", x.count(3), 3);
        FenceSides same = Twin.rich();
        same.hold(0);
        same.years(9);
        same.restore(0);
        FenceSides twin = Twin.rich();
        twin.hold(0);
        twin.restore(0);
        Twin.alike("promise 40: all that goes on", same, twin);
    }

    /** Each HEDGE, FACE and PERSON is held: the first and the last ones too. */
    static void restoreOfEach() {
        for (int h = 0; h < 10; h++) {
            FenceSides x = Check.of(PAIR + "hedge f g a b 9;".repeat(10));
            int hedge = h;
            Twin.Deed[] backs = {y -> y.undo() ? 1 : 0, y -> y.restore(0) ? 1 : 0};
            for (Twin.Deed back : backs) {
                x.years(3);
                x.hold(0);
                int high = x.hedge(h, 4);
                int clipped = x.hedge(h, 6);
                x.clip(0, hedge);
                Check.due("promises 13, 40: back", back.on(x), 1);
                Check.due("promises 13, 40: HIGH of " + h, x.hedge(h, 4), high);
                Check.due("promises 13, 40: clipped of " + h, x.hedge(h, 6), clipped);
                x.sell(h, 0, 1);
                back.on(x);
                Check.due("promises 13, 40: OUTER of " + h, x.hedge(h, 2), 0);
                x.sell(h, 1, 0);
                back.on(x);
                Check.due("promises 13, 40: INNER of " + h, x.hedge(h, 3), 1);
            }
        }
        for (int p = 0; p < 6; p++) {
            FenceSides x = Check.of(TextBoundsTest.people(6));
            Twin.Deed[] backs = {y -> y.undo() ? 1 : 0, y -> y.restore(0) ? 1 : 0};
            for (Twin.Deed back : backs) {
                x.hold(0);
                x.marry(p, (p + 1) % 6);
                back.on(x);
                Check.due("promises 13, 40: the spouse of " + p, x.person(p, 2), -2);
                x.years(7);
                back.on(x);
                Check.due("promises 13, 40: AGE of " + p, x.person(p, 0), 9);
                Check.due("promises 13, 40: alive, " + p, x.person(p, 1), 1);
            }
        }
    }

    // ---- promise 41

    static void countNumbers() {
        FenceSides x = Twin.rich();
        for (int what : new int[] {MIN, -2, -1, 18, 19, 32, MAX}) {
            Check.due("promise 41: count(" + what + ")", x.count(what), -1);
        }
        int[] due = {7, 6, 10, 3, 31, 6, 64, 2, 20, 6, 3, 2, 0, 0, 17, 88 + 33 + 23 + 8 + 43, 5, 1};
        // HIGH of all without a GAP: HEDGES 0 .. 5 and 7 .. 9, clipped in year 1 and 3, else 6 higher than told.
        int[] high = {4, 26, 11, 13, 0, 9, 0, 6, 36, 66};
        for (int h = 0; h < 10; h++) {
            due[12] += high[h];
        }
        // COSTS is high + which; all FACES but the OUTER one of HEDGE 5 are somebody's.
        for (int h = 0; h < 10; h++) {
            due[13] += h == 6 ? 0 : (high[h] + h) / 2 * (h == 5 ? 1 : 2);
        }
        for (int what = 0; what < due.length; what++) {
            Check.due("promise 41: count(" + what + ")", x.count(what), due[what]);
        }
    }

    static void countsFull() {
        FenceSides x = Check.of("field f;field g;field h;field i;field j;field k;field l;" + TextBoundsTest.people(6)
            + "hedge f g pa pa 99;".repeat(10) + "costs=99;");
        Check.due("promise 41: HIGH of ten", x.count(12), 990);
        Check.due("promise 41: DUE of all, ten", x.count(13), 980);
        x.years(1);
        Check.due("promise 41: ten GAPS, bits", x.count(6), 1023);
        Check.due("promise 41: ten GAPS", x.count(17), 10);
        Check.due("promise 41: no HIGH", x.count(12), 0);
        Check.due("promise 41: no DUE", x.count(13), 0);
        for (int h = 0; h < 10; h++) {
            x.close(0, h);
        }
        Check.due("promise 41: ten were clipped", x.count(14), 1023);
        Check.due("promise 41: no GAPS", x.count(17), 0);
        x.marry(0, 1);
        x.marry(2, 3);
        x.marry(4, 5);
        Check.due("promise 41: all six are married", x.count(5), 63);
        Check.due("promise 41: six are alive", x.count(16), 6);
        Check.due("promise 41: six AGES", x.count(15), 60);
    }

    /** Fewer FIELDS than PEOPLE, fewer PEOPLE than HEDGES: each sort by its own number. */
    static void countsOfTheLast() {
        FenceSides x = Check.of("field f;field g;" + TextBoundsTest.people(6) + "hedge f g pa pb 9;".repeat(9) + "hedge f g pf pf 40;");
        Check.due("promise 41: DUE of the last PERSON too", x.count(13), 9 * 8 + 40);
        Check.due("promise 41: HIGH of the last HEDGE too", x.count(12), 9 * 9 + 40);
        Check.due("promise 41: AGE of the last PERSON too", x.count(15), 54);
        x.clip(5, 9);
        Check.due("promise 41: the last one was clipped", x.count(14), 512);
        x.years(1);
        Check.due("promise 41: the last one has a GAP", x.count(6), 512);
        x.marry(4, 5);
        Check.due("promise 41: the last two are married", x.count(5), 48);
        FenceSides gone = Check.of("field f;field g;person a 1;person b 1;" + "hedge f g a b 9;".repeat(10) + "dies=100;");
        gone.years(1);
        Check.due("promise 41: all 20 FACES are nobody's", gone.count(7), 20);
    }

    static void countsEmpty() {
        FenceSides gone = Check.of(AskBoundsTest.GONE);
        gone.marry(0, 1);
        gone.years(1);
        int[] due = {2, 2, 1, 1, 0, 0, 0, 2, 0, 2, 0, 0, 5, 0, 0, 0, 0, 0};
        for (int what = 0; what < due.length; what++) {
            Check.due("promise 41: nobody is alive, count(" + what + ")", gone.count(what), due[what]);
        }
    }

    // ---- how long an object is used

    static void usedFor512Calls() {
        FenceSides years = new FenceSides();
        for (int i = 1; i <= 512; i++) {
            Check.due("promise 12: call " + i, years.years(60), 60 * i);
        }
        FenceSides reads = new FenceSides();
        for (int i = 1; i <= 512; i++) {
            Check.due("promise 4: call " + i, reads.read(), 0);
        }
        FenceSides tape = new FenceSides();
        for (int round = 0; round < 5; round++) {
            for (int i = 1; i <= 100; i++) {
                Check.due("promise 2: round " + round + ", feed " + i, TextBoundsTest.blanks(tape), 20 * i);
            }
            Check.due("promise 4: round " + round, tape.read(), 0);
        }
        FenceSides clips = Check.of(PAIR + "hedge f g a b 9;");
        for (int i = 1; i <= 500; i++) {
            Check.due("promise 8: clip " + i, clips.clip(i % 2, 0), true);
        }
        Check.due("promise 41: 40 things at most", clips.count(9), 40);
        FenceSides tells = Check.of(PAIR + "hedge f g a b 9;");
        for (int i = 0; i < 500; i++) {
            Check.due("promise 35: call " + i, i % 21 == 20 ? tells.forget() : tells.tell(0, 0, 0, true), i % 21);
        }
        FenceSides slots = Check.of(PAIR + "hedge f g a b 9;");
        for (int i = 1; i <= 125; i++) {
            Check.due("promise 12: the year, " + i, slots.years(1), i);
            Check.due("promise 39: hold, " + i, slots.hold(i % 3), true);
            Check.due("promise 12: on, " + i, slots.years(60), i + 60);
            Check.due("promise 40: restore, " + i, slots.restore(i % 3), true);
        }
        FenceSides asks = Check.of(Twin.TEXT);
        for (int i = 0; i < 400; i++) {
            Check.due("promise 34: call " + i, asks.year(i % 5, 5, 20), 20);
        }
        Check.due("promise 33: behind 400 calls", asks.aliveIn(60), 14);
    }
}
