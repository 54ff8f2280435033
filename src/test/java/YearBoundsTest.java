/**
 * The boundary cases of laws, lots and years ('Terms', II, and promises 6 to 13), a test for each sentence that names
 * one: at the boundary, one below it, one above it.
 */
public final class YearBoundsTest {
    static final String PAIR = "field f;field g;person a 20;person b 30;";

    public static void main(String[] args) {
        lessIsNotAlike();
        theFirstIfThatHolds();
        intsWrap();
        roundedTowards0();
        dividedBy0();
        dividedBy0IsNotLookedAt();
        aVarNotToldIs0();
        growsIsHeld();
        costsIsHeld();
        fallsIsMoreThan0();
        diesIsHeld();
        clippedAndTheYear();
        ageOfNobodyIs0();
        gapsForAllLaws();
        facesFrom0To20();
        whichOfTheLast();
        lotsAtTheirBoundary();
        lotsOfLaterYears();
        diesOf0And100();
        leavesToTheHeir();
        leavesAll20();
        leavesToTheSpouse();
        leavesToNobody();
        thoseWhoDieAreDeadFirst();
        allByHowItWas();
        olderUpTo199();
        higherUpTo99();
        aGapDoesNotGrow();
        aGapAsFallsTold();
        aGapAsFacesAreThenOnes();
        aGapAsFacesAreSpouses();
        Check.end("YearBoundsTest");
    }

    /** LOT 100, worked out with longs. */
    static int lot(int seed, int which) {
        long h = seed;
        for (long it : new long[] {155, which}) {
            h = ((h ^ it) * 1103515245L + 12345L) % 4294967296L;
            h = h ^ h / 32768;
        }
        return (int) (h / 2 % 100);
    }

    static int costs(String law) {
        return Check.of(PAIR + "hedge f g a b 10;costs = " + law + ";").hedge(0, 9);
    }

    // ---- laws

    static void lessIsNotAlike() {
        Check.due("promise 6: one less", costs("if high < 11 then 1 else 2"), 1);
        Check.due("promise 6: alike is not less", costs("if high < 10 then 1 else 2"), 2);
        Check.due("promise 6: one more", costs("if high < 9 then 1 else 2"), 2);
        Check.due("promise 6: below 0", costs("if 0 - 1 < 0 then 1 else 2"), 1);
        Check.due("promise 6: 0 and 0", costs("if 0 < 0 then 1 else 2"), 2);
        Check.due("promise 6: 0 and below 0", costs("if 0 < 0 - 1 then 1 else 2"), 2);
        Check.due("promise 6: the least and the largest",
            costs("if 0 - 2048 * 1024 * 1024 < 2048 * 1024 * 1024 - 1 then 1 else 2"), 1);
        Check.due("promise 6: the largest and the least",
            costs("if 2048 * 1024 * 1024 - 1 < 0 - 2048 * 1024 * 1024 then 1 else 2"), 2);
    }

    static void theFirstIfThatHolds() {
        String law = "if high < 5 then 1 else if high < 10 then 2 else if high < 15 then 3 else if high < 20 then 4 else 5";
        int[] highs = {0, 4, 5, 9, 10, 14, 15, 19, 20, 99};
        int[] due = {1, 1, 2, 2, 3, 3, 4, 4, 5, 5};
        for (int i = 0; i < highs.length; i++) {
            FenceSides x = Check.of(PAIR + "hedge f g a b " + highs[i] + ";costs=" + law + ";");
            Check.due("promise 6: the first if that holds, high " + highs[i], x.hedge(0, 9), due[i]);
        }
        Check.due("promise 6: a later one that holds does not matter", costs("if 1<2 then 7 else if 1<2 then 8 else 9"), 7);
        Check.due("promise 6: no if", costs("9"), 9);
    }

    static void intsWrap() {
        String large = "(2048 * 1024 * 1024 - 1)";
        String least = "(0 - 2048 * 1024 * 1024)";
        Check.due("promise 6: the largest is above 0", costs("if 0 < " + large + " then 1 else 2"), 1);
        Check.due("promise 6: 2 to the 31st wraps", costs("if 2048 * 1024 * 1024 < 0 then 1 else 2"), 1);
        Check.due("promise 6: the largest and 1", costs("if " + large + " + 1 < 0 then 1 else 2"), 1);
        Check.due("promise 6: the largest and 1 is the least", costs(large + " + 1 - " + least + " + 5"), 5);
        Check.due("promise 6: the least less 1", costs("if 0 < " + least + " - 1 then 1 else 2"), 1);
        Check.due("promise 6: the least less 1 is the largest", costs(least + " - 1 - " + large + " + 6"), 6);
        Check.due("promise 6: 2 to the 32nd is 0", costs("2048 * 2048 * 1024 + 8"), 8);
        Check.due("promise 6: 65536 * 65536 is 0", costs("(4096 * 16) * (4096 * 16) + 9"), 9);
        Check.due("promise 6: 9999 * 9999 * 9999", costs("9999 * 9999 * 9999 / 9999 / 9999 + 40"), 9999 * 9999 * 9999 / 9999 / 9999 + 40);
        Check.due("promise 6: the least by -1 is the least", costs(least + " / (0 - 1) - " + least + " + 3"), 3);
        Check.due("promise 6: the least times -1 is the least", costs(least + " * (0 - 1) - " + least + " + 4"), 4);
        Check.due("promise 6: the largest is held to 99", costs(large), 99);
        Check.due("promise 6: wrapped below 0, held to 0", costs(large + " + 1"), 0);
    }

    static void roundedTowards0() {
        Check.due("promise 6: 7 / 2", costs("7 / 2"), 3);
        Check.due("promise 6: -7 / 2", costs("50 + (0 - 7) / 2"), 47);
        Check.due("promise 6: 7 / -2", costs("50 + 7 / (0 - 2)"), 47);
        Check.due("promise 6: -7 / -2", costs("50 + (0 - 7) / (0 - 2)"), 53);
        Check.due("promise 6: 1 / 2", costs("50 + 1 / 2"), 50);
        Check.due("promise 6: -1 / 2", costs("50 + (0 - 1) / 2"), 50);
        Check.due("promise 6: 6 / 2", costs("6 / 2"), 3);
        Check.due("promise 6: from the left on", costs("7 / 2 * 2 - 1 - 1"), 4);
        Check.due("promise 6: 0 / 5", costs("7 + 0 / 5"), 7);
    }

    static void dividedBy0() {
        Check.due("promise 6: by 0", costs("9 + 1 / 0"), 0);
        Check.due("promise 6: by 1", costs("9 + 1 / 1"), 10);
        Check.due("promise 6: by -1", costs("9 + 1 / (0 - 1)"), 8);
        Check.due("promise 6: 0 by 0", costs("9 + 0 / 0"), 0);
        Check.due("promise 6: by 0, then times 0", costs("9 + 1 / 0 * 0"), 0);
        Check.due("promise 6: by what comes to 0", costs("9 + 1 / (high - 10)"), 0);
        Check.due("promise 6: by a VAR that is 0", costs("9 + 1 / age"), 0);
        Check.due("promise 6: in an if's first E", costs("if 1 / 0 < 5 then 9 else 9"), 0);
        Check.due("promise 6: in an if's second E", costs("if 5 < 1 / 0 then 9 else 9"), 0);
        Check.due("promise 6: in what holds", costs("if 1 < 2 then 9 + 1 / 0 else 9"), 0);
        Check.due("promise 6: in the last one", costs("if 2 < 1 then 9 else 9 + 1 / 0"), 0);
        Check.due("promise 6: in a second if", costs("if 2 < 1 then 9 else if 1 / 0 < 1 then 9 else 9"), 0);
        FenceSides x = Check.of(PAIR + "hedge f g a b 10;grows = 5 + 1 / 0;falls = 5 + 1 / 0;dies = 5 + 1 / 0;");
        Check.due("promise 6: GROWS by 0", x.hedge(0, 7), 0);
        Check.due("promise 6: FALLS by 0", x.hedge(0, 8), 0);
        Check.due("promise 7: DIES by 0", x.person(0, 6), 0);
        x.years(1);
        Check.due("promise 12: GROWS by 0, so it is no higher", x.hedge(0, 4), 10);
        Check.due("promise 12: FALLS by 0, so it has no GAP", x.hedge(0, 5), 0);
        Check.due("promise 12: DIES by 0, so all are alive", x.count(4), 3);
    }

    static void dividedBy0IsNotLookedAt() {
        Check.due("promise 6: behind an if that holds", costs("if 1 < 2 then 9 else 1 / 0"), 9);
        Check.due("promise 6: in one that does not hold", costs("if 2 < 1 then 1 / 0 else 9"), 9);
        Check.due("promise 6: in a later if", costs("if 1 < 2 then 9 else if 1 / 0 < 1 then 1 else 1"), 9);
        Check.due("promise 6: in a later one's E", costs("if 1 < 2 then 9 else if 1 < 2 then 1 / 0 else 1"), 9);
    }

    static void aVarNotToldIs0() {
        FenceSides x = Check.of(PAIR + "hedge f g a b 10;costs = 50 + age + faces;grows = 60 + age - faces;dies = 70 + high + outer + inner + clipped;");
        x.years(1);
        Check.due("promise 6: no age, no faces in COSTS", x.hedge(0, 9), 50);
        Check.due("promise 6: none in GROWS", x.hedge(0, 7), 60);
        Check.due("promise 7: no high, outer, inner, clipped in DIES", x.person(1, 6), 70);
        FenceSides falls = Check.of(PAIR + "hedge f g a b 10;falls = 1 - 100 * age - 100 * faces;");
        Check.due("promise 6: none in FALLS", falls.hedge(0, 8), 1);
    }

    static void growsIsHeld() {
        String[] laws = {"0 - 9999", "0 - 1", "0", "1", "98", "99", "100", "9999"};
        int[] due = {0, 0, 0, 1, 98, 99, 99, 99};
        for (int i = 0; i < laws.length; i++) {
            FenceSides x = Check.of(PAIR + "hedge f g a b 0;grows = " + laws[i] + ";");
            Check.due("promise 6: GROWS " + laws[i], x.hedge(0, 7), due[i]);
            x.years(1);
            Check.due("promise 12: higher by GROWS " + laws[i], x.hedge(0, 4), due[i]);
        }
        FenceSides y = Check.of(PAIR + "hedge f g a b 50;grows = 0 - 1;");
        y.years(1);
        Check.due("promise 12: never lower", y.hedge(0, 4), 50);
    }

    static void costsIsHeld() {
        String[] laws = {"0 - 9999", "0 - 1", "0", "1", "98", "99", "100", "9999"};
        int[] due = {0, 0, 0, 1, 98, 99, 99, 99};
        for (int i = 0; i < laws.length; i++) {
            FenceSides x = Check.of(PAIR + "hedge f g a b 5;costs = " + laws[i] + ";");
            Check.due("promise 6: COSTS " + laws[i], x.hedge(0, 9), due[i]);
            Check.due("promise 21: half of COSTS " + laws[i], x.due(0), due[i] / 2);
        }
    }

    static void fallsIsMoreThan0() {
        String[] laws = {"0 - 9999", "0 - 1", "0", "1", "2", "9999", "2048 * 1024 * 1024"};
        int[] due = {0, 0, 0, 1, 1, 1, 0};
        for (int i = 0; i < laws.length; i++) {
            FenceSides x = Check.of(PAIR + "hedge f g a b 5;falls = " + laws[i] + ";");
            Check.due("promise 6: FALLS " + laws[i], x.hedge(0, 8), due[i]);
            x.years(1);
            Check.due("promise 12: a GAP by FALLS " + laws[i], x.hedge(0, 5), due[i]);
        }
    }

    static void diesIsHeld() {
        String[] laws = {"0 - 9999", "0 - 1", "0", "1", "99", "100", "101", "9999"};
        int[] due = {0, 0, 0, 1, 99, 100, 100, 100};
        for (int i = 0; i < laws.length; i++) {
            FenceSides x = Check.of("person a 5;dies = " + laws[i] + ";");
            Check.due("promise 7: DIES " + laws[i], x.person(0, 6), due[i]);
        }
    }

    static void clippedAndTheYear() {
        FenceSides x = Check.of(PAIR + "hedge f g a b 10;hedge f g a b 10;costs = clipped;grows = 0;");
        Check.due("promise 6: never, year 0", x.hedge(0, 6), 0);
        x.years(1);
        Check.due("promise 6: never, year 1", x.hedge(0, 6), 1);
        x.years(9);
        Check.due("promise 6: never: the year", x.hedge(0, 6), 10);
        Check.due("promise 6: never, in a LAW", x.hedge(0, 9), 10);
        x.clip(0, 0);
        Check.due("promise 6: clipped this year", x.hedge(0, 6), 0);
        Check.due("promise 6: clipped this year, in a LAW", x.hedge(0, 9), 0);
        x.years(1);
        Check.due("promise 6: a year ago", x.hedge(0, 6), 1);
        Check.due("promise 6: the other one never", x.hedge(1, 6), 11);
        x.years(60);
        Check.due("promise 6: 61 years ago", x.hedge(0, 6), 61);
        Check.due("promise 6: 61 years ago, in a LAW", x.hedge(0, 9), 61);
        FenceSides y = Check.of(PAIR + "hedge f g a b 10;");
        y.clip(0, 0);
        y.years(2);
        Check.due("promise 6: clipped in year 0", y.hedge(0, 6), 2);
        Check.due("promise 41: ever clipped, in year 0", y.count(14), 1);
    }

    static void ageOfNobodyIs0() {
        FenceSides x = Check.of("field f;field g;person a 90;person b 30;hedge f g a b 1;hedge g f b a 1;dies = if age < 90 then 0 else 100;costs = outer + 2 * inner;");
        Check.due("promise 6: AGES", x.hedge(0, 9), 99);
        x.years(1);
        Check.due("promise 6: OUTER is nobody's", x.hedge(0, 9), 62);
        Check.due("promise 6: INNER is nobody's", x.hedge(1, 9), 31);
    }

    static void gapsForAllLaws() {
        FenceSides x = Check.of(PAIR + "hedge f g a b 1;hedge f g a a 1;hedge f g b b 1;grows = 5 + gaps;costs = 6 + gaps;dies = 7 * gaps;falls = gaps - 1;");
        Check.due("promise 6: no gaps in GROWS", x.hedge(0, 7), 5);
        Check.due("promise 6: no gaps in COSTS", x.hedge(0, 9), 6);
        Check.due("promise 6: no gaps in FALLS", x.hedge(0, 8), 0);
        Check.due("promise 7: no gaps in DIES", x.person(0, 6), 0);
        x.years(1);
        Check.due("promise 6: two gaps in GROWS", x.hedge(0, 7), 7);
        Check.due("promise 6: two gaps in COSTS", x.hedge(0, 9), 8);
        Check.due("promise 6: two gaps in FALLS", x.hedge(0, 8), 1);
        Check.due("promise 7: two gaps in DIES", x.person(0, 6), 14);
        x.close(0, 1);
        Check.due("promise 6: one gap in FALLS", x.hedge(0, 8), 0);
        Check.due("promise 7: one gap in DIES", x.person(0, 6), 7);
    }

    static void facesFrom0To20() {
        FenceSides x = Check.of(PAIR + "hedge f g a a 1;".repeat(10) + "dies = faces;");
        Check.due("promise 7: 20 FACES", x.person(0, 5), 20);
        Check.due("promise 7: 20 faces in DIES", x.person(0, 6), 20);
        Check.due("promise 7: no FACES", x.person(1, 5), 0);
        Check.due("promise 7: no faces in DIES", x.person(1, 6), 0);
        x.sell(9, 1, 1);
        Check.due("promise 7: 19 faces in DIES", x.person(0, 6), 19);
        Check.due("promise 7: one face in DIES", x.person(1, 6), 1);
    }

    static void whichOfTheLast() {
        FenceSides x = Check.of(Twin.TEXT + "grows = which;falls = which - 8;costs = 10 * which;dies = 10 * which;");
        for (int h = 0; h < 10; h++) {
            Check.due("promise 6: which in GROWS, " + h, x.hedge(h, 7), h);
            Check.due("promise 6: which in FALLS, " + h, x.hedge(h, 8), h == 9 ? 1 : 0);
            Check.due("promise 6: which in COSTS, " + h, x.hedge(h, 9), 10 * h);
        }
        for (int p = 0; p < 6; p++) {
            Check.due("promise 7: which in DIES, " + p, x.person(p, 6), 10 * p);
        }
    }

    // ---- lots

    static void lotsAtTheirBoundary() {
        for (int seed : new int[] {0, 1, 154, 155, 156, 4711, 9998, 9999}) {
            for (int p = 0; p < 6; p++) {
                int lot = lot(seed, p);
                for (int more = -1; more <= 1; more++) {
                    String law = "if which < " + p + " then 0 else if " + p + " < which then 0 else " + lot + " + " + (more + 1) + " - 1";
                    FenceSides x = Check.of(TextBoundsTest.people(6) + "dies = " + law + "; seed " + seed + ";");
                    boolean dies = more == 1;
                    Check.due("promise 33: LOT " + lot + " of " + seed + " and " + p + ", DIES " + (lot + more), x.aliveIn(1), dies ? 63 & ~(1 << p) : 63);
                    x.years(1);
                    Check.due("promise 12: LOT " + lot + " of " + seed + " and " + p + ", DIES " + (lot + more), x.count(4), dies ? 63 & ~(1 << p) : 63);
                }
            }
        }
    }

    static void lotsOfLaterYears() {
        for (int year : new int[] {1, 2, 59, 60, 61, 4095, 20000}) {
            for (int p : new int[] {0, 1, 5}) {
                int lot = lot(9999, 8 * year + p);
                for (int more = 0; more <= 1; more++) {
                    String law = "if years < 100 * " + year / 100 + " + " + year % 100 + " then 0 else if which < " + p + " then 0 else if " + p + " < which then 0 else " + (lot + more);
                    FenceSides x = Check.of(TextBoundsTest.people(6) + "dies = " + law + "; seed 9999;");
                    for (int gone = 0; gone < year; gone += 60) {
                        x.years(Math.min(60, year - gone));
                    }
                    Check.due("promise 12: nobody died by " + year, x.count(4), 63);
                    x.years(1);
                    Check.due("promise 12: LOT of year " + year + " and " + p + ", DIES " + (lot + more), x.count(4), more == 1 ? 63 & ~(1 << p) : 63);
                }
            }
        }
    }

    static void diesOf0And100() {
        for (int seed = 0; seed < 200; seed += 7) {
            FenceSides none = Check.of(TextBoundsTest.people(6) + "dies = 0; seed " + seed + ";");
            Check.due("promise 33: DIES 0, seed " + seed, none.aliveIn(60), 63);
            FenceSides all = Check.of(TextBoundsTest.people(6) + "dies = 100; seed " + seed + ";");
            Check.due("promise 33: DIES 100, seed " + seed, all.aliveIn(1), 0);
        }
    }

    // ---- what is left

    static final String HEIRS = "field f;field g;person a 90;person b 30;person c 20;person d 10;hedge f g a d 1;hedge g f d a 1;"
        + "dies = if age < 90 then 0 else 100;";

    static void leavesToTheHeir() {
        FenceSides x = Check.of(HEIRS + "heirs a b c;");
        x.marry(0, 3);
        x.sell(0, 1, 2);
        x.sell(1, 0, 1);
        x.years(1);
        Check.due("promise 12: OUTER to the heir to OUTER", x.hedge(0, 2), 1);
        Check.due("promise 12: INNER to the heir to INNER", x.hedge(1, 3), 2);
        Check.due("promise 7: none are the dead one's", x.person(0, 5), 0);
        Check.due("promise 7: the AGE as they died", x.person(0, 0), 90);
        x.years(5);
        Check.due("promise 7: no older when dead", x.person(0, 0), 90);
    }

    static void leavesAll20() {
        FenceSides x = Check.of("field f;field g;person a 90;person b 30;person c 20;" + "hedge f g a a 1;".repeat(10) + "heirs a b c;dies = if age < 90 then 0 else 100;");
        x.years(1);
        for (int h = 0; h < 10; h++) {
            Check.due("promise 12: OUTER of " + h + " to the heir", x.hedge(h, 2), 1);
            Check.due("promise 12: INNER of " + h + " to the heir", x.hedge(h, 3), 2);
        }
        Check.due("promise 12: no GAPS, being then two people's", x.count(6), 0);
    }

    static void leavesToTheSpouse() {
        FenceSides none = Check.of(HEIRS);
        none.marry(0, 1);
        none.years(1);
        Check.due("promise 12: no heir told: OUTER to the spouse", none.hedge(0, 2), 1);
        Check.due("promise 12: no heir told: INNER to the spouse", none.hedge(1, 3), 1);
        FenceSides dead = Check.of(HEIRS.replace("person c 20", "person c 95") + "heirs a c d;");
        dead.marry(0, 1);
        dead.sell(0, 1, 1);
        dead.years(1);
        Check.due("promise 12: the heir is not alive: to the spouse", dead.hedge(0, 2), 1);
        Check.due("promise 12: the other heir is alive", dead.hedge(1, 3), 3);
    }

    static void leavesToNobody() {
        FenceSides none = Check.of(HEIRS);
        none.years(1);
        Check.due("promise 12: no heir, no spouse: OUTER to nobody", none.hedge(0, 2), -2);
        Check.due("promise 12: no heir, no spouse: INNER to nobody", none.hedge(1, 3), -2);
        Check.due("promise 41: FACES that are nobody's", none.count(7), 2);
        none.years(1);
        Check.due("promise 12: what is nobody's stays so", none.count(7), 2);
        FenceSides dead = Check.of(HEIRS.replace("person c 20", "person c 95").replace("person b 30", "person b 99") + "heirs a c c;");
        dead.marry(0, 1);
        dead.years(1);
        Check.due("promise 12: heir and spouse are not alive", dead.hedge(0, 2), -2);
        Check.due("promise 41: two of nobody's", dead.count(7), 2);
    }

    static void thoseWhoDieAreDeadFirst() {
        // a and b die in one year, each the other's heir: neither gets what the other one leaves.
        for (String ages : new String[] {"person a 90;person b 90;person c 1;person d 1;", "person c 1;person b 90;person d 1;person a 90;"}) {
            FenceSides x = Check.of("field f;field g;" + ages + "hedge f g a c 1;hedge f g b d 1;heirs a b b;heirs b a a;dies = if age < 90 then 0 else 100;");
            x.years(1);
            Check.due("promise 12: both are dead first", x.hedge(0, 2), -2);
            Check.due("promise 12: both are dead first", x.hedge(1, 2), -2);
        }
        FenceSides later = Check.of("field f;field g;person a 90;person b 89;person c 1;person d 1;hedge f g a c 1;heirs a b b;heirs b d c;dies = if age < 90 then 0 else 100;");
        later.years(1);
        Check.due("promise 12: a year earlier the heir is alive", later.hedge(0, 2), 1);
        later.years(1);
        Check.due("promise 12: then the heir's heir", later.hedge(0, 2), 3);
    }

    // ---- a year

    static void allByHowItWas() {
        // Death by FACES as the year began; GROWS by the AGE of whose it was; FALLS by high as the year began.
        FenceSides x = Check.of("field f;field g;person a 90;person b 30;person c 20;hedge f g a c 1;hedge f g b c 1;heirs a b b;"
            + "dies = if 89 < age then 100 else if which < 1 then 0 else if which < 2 then 100 * (faces - 1) else 0;"
            + "grows = outer;falls = high - 50;");
        x.years(1);
        Check.due("promise 12: b had one FACE as it began", x.count(4), 6);
        Check.due("promise 12: GROWS by AGE 90", x.hedge(0, 4), 91);
        Check.due("promise 12: FALLS by high 1", x.hedge(0, 5), 0);
        Check.due("promise 12: b's two FACES", x.person(1, 5), 2);
        x.years(1);
        Check.due("promise 12: a year later b dies by two", x.count(4), 4);
        Check.due("promise 12: a year later FALLS by high 91", x.hedge(0, 5), 1);
        FenceSides gaps = Check.of(PAIR + "hedge f g a b 1;hedge f g b a 1;falls = if which < 1 then 1 else gaps;");
        gaps.years(1);
        Check.due("promise 12: gaps as it began", gaps.count(6), 1);
        gaps.years(1);
        Check.due("promise 12: gaps a year later", gaps.count(6), 3);
        FenceSides clipped = Check.of(PAIR + "hedge f g a b 0;grows = 10 * years + clipped;");
        clipped.years(2);
        Check.due("promise 12: years and clipped as each began", clipped.hedge(0, 4), 11);
    }

    static void olderUpTo199() {
        FenceSides x = Check.of("person a 99;person b 98;person c 0;");
        x.years(1);
        Check.due("promise 12: a year older", x.person(2, 0), 1);
        x.years(59);
        x.years(39);
        Check.due("promise 12: 198", x.person(0, 0), 198);
        x.years(1);
        Check.due("promise 12: 199", x.person(0, 0), 199);
        Check.due("promise 12: 198 of the other", x.person(1, 0), 198);
        x.years(1);
        Check.due("promise 12: 199 at most", x.person(0, 0), 199);
        Check.due("promise 12: 199 of the other", x.person(1, 0), 199);
        x.years(60);
        Check.due("promise 12: 199 at most, later", x.person(1, 0), 199);
        Check.due("promise 12: 161 is below", x.person(2, 0), 161);
        Check.due("promise 25: of alike ones the first", x.eldest(0), 0);
        Check.due("promise 25: 199", x.eldest(1), 199);
        Check.due("promise 41: AGES added", x.count(15), 199 + 199 + 161);
    }

    static void higherUpTo99() {
        int[][] rows = {{97, 1, 98}, {98, 1, 99}, {99, 1, 99}, {98, 0, 98}, {97, 2, 99}, {98, 2, 99}, {0, 98, 98}, {0, 99, 99}, {1, 99, 99}, {99, 99, 99}, {99, 0, 99}};
        for (int[] row : rows) {
            FenceSides x = Check.of(PAIR + "hedge f g a b " + row[0] + ";grows = " + row[1] + ";");
            Check.due("promise 32: " + row[0] + " high, GROWS " + row[1], x.then(0, 1, 0), row[2]);
            Check.due("promise 20: " + row[0] + " high, GROWS " + row[1], x.highest(1, 1), row[2]);
            x.years(1);
            Check.due("promise 12: " + row[0] + " high, GROWS " + row[1], x.hedge(0, 4), row[2]);
        }
    }

    static void aGapDoesNotGrow() {
        FenceSides x = Check.of(PAIR + "hedge f g a b 10;hedge f g a b 10;falls = if which < 1 then high - 11 else 0;");
        x.years(2);
        Check.due("promise 12: FALLS by high 11 is not more than 0", x.hedge(0, 5), 0);
        x.years(1);
        Check.due("promise 12: higher by GROWS, then a GAP", x.hedge(0, 4), 13);
        Check.due("promise 12: a GAP", x.hedge(0, 5), 1);
        x.years(4);
        Check.due("promise 12: one with a GAP is no higher", x.hedge(0, 4), 13);
        Check.due("promise 12: the other one is", x.hedge(1, 4), 17);
        x.close(0, 0);
        x.years(1);
        Check.due("promise 12: one closed grows again", x.hedge(0, 4), 1);
    }

    static void aGapAsFallsTold() {
        FenceSides x = Check.of(PAIR + "hedge f g a b 10;falls = high - 10;");
        x.years(1);
        Check.due("promise 12: not by how high it is then", x.count(6), 0);
        x.years(1);
        Check.due("promise 12: a year later", x.count(6), 1);
    }

    static void aGapAsFacesAreThenOnes() {
        FenceSides left = Check.of("field f;field g;person a 90;person b 30;person c 1;hedge f g a b 1;hedge f g a c 1;hedge f g b c 1;heirs a b b;dies = if age < 90 then 0 else 100;");
        Check.due("promise 26: no ONES yet", left.ones(), 0);
        left.years(1);
        Check.due("promise 12: both FACES are then one's", left.count(6), 1);
        FenceSides nobody = Check.of("field f;field g;person a 90;person b 90;person c 1;hedge f g a b 1;hedge f g a a 1;hedge f g a c 1;dies = if age < 90 then 0 else 100;");
        nobody.years(1);
        Check.due("promise 12: both are then nobody's: no GAP", nobody.count(6), 0);
        Check.due("promise 26: nobody's are no ONES", nobody.ones(), 0);
        FenceSides sold = Check.of(PAIR + "hedge f g a a 1;");
        sold.sell(0, 0, 1);
        sold.years(1);
        Check.due("promise 12: no longer one's", sold.count(6), 0);
    }

    static void aGapAsFacesAreSpouses() {
        FenceSides x = Check.of(PAIR + "person c 1;hedge f g a b 1;hedge f g a c 1;hedge f g c b 1;");
        x.years(1);
        Check.due("promise 12: not married", x.count(6), 0);
        x.marry(0, 1);
        Check.due("promise 26: spouses'", x.ones(), 1);
        Check.due("promise 41: no GAP by itself", x.count(6), 0);
        x.years(1);
        Check.due("promise 12: spouses'", x.count(6), 1);
        FenceSides widow = Check.of("field f;field g;person a 90;person b 30;person c 1;hedge f g a b 1;heirs a c c;dies = if age < 90 then 0 else 100;");
        widow.marry(0, 1);
        widow.years(1);
        Check.due("promise 12: spouses' no more, the heir being another", widow.count(6), 0);
        Check.due("promise 12: the heir's", widow.hedge(0, 2), 2);
        FenceSides left = Check.of("field f;field g;person a 90;person b 30;person c 1;hedge f g a b 1;heirs a c c;dies = if age < 90 then 0 else 100;");
        left.marry(2, 1);
        left.years(1);
        Check.due("promise 12: left to the spouse of whose the other one is", left.count(6), 1);
    }
}
