/**
 * The boundary cases of texts ('Terms', I, and promises 2 to 5), a test for each sentence that names one: at the
 * boundary, one below it, one above it. No object is asked more often than 512 times.
 */
public final class TextBoundsTest {
    static final String[] WORDS = {"field", "person", "hedge", "heirs", "grows", "dies", "falls", "costs", "seed", "if",
        "then", "else", "high", "years", "age", "faces", "which", "outer", "inner", "clipped", "gaps"};
    static final String TWO = "field f;field g;person a 1;person b 2;person c 3;";
    static final int BLANKS = 0x20202020;
    static final int MIN = Integer.MIN_VALUE;
    static final int MAX = Integer.MAX_VALUE;

    public static void main(String[] args) {
        feedPutsTheHighestByteFirst();
        feedUpTo2000();
        feedThatIsRefusedPutsNothing();
        backTakesTheLast();
        backOfMoreThanThereIs();
        readOfAnEmptyTape();
        readEmptiesTheTape();
        placeOfTheLatestRead();
        placeBehindEachFault();
        placeIsTheTextsEnd();
        namesOfEightLetters();
        namesThatDifferInOneLetter();
        namesAreNoWords();
        namesThatAreAlmostWords();
        intsOfFourDigits();
        everyByteBetweenTokens();
        everyByteAsASign();
        everyByteAsANameOrAnInt();
        blanksOrNot();
        emptyTexts();
        fieldsAndPeopleFull();
        hedgesAndHeirsFull();
        lawsAndSeedsAreNeverFull();
        agesAndHeights();
        seeds();
        numberedAsTheyStand();
        lastHeirsLawsAndSeed();
        the401stToken();
        aLawOfAllTokens();
        the5thIf();
        the7thBracket();
        ofOnePlaceTheLeast();
        theFirstByItsPlace();
        theFirstOfTwoOfASort();
        lesserFaultsByTheirPlace();
        toldTwice();
        toldAhead();
        aFaultChangesNothing();
        aTextInPlaceOfTheOneAhead();
        fullTextsAgainAndAgain();
        longLawsAgainAndAgain();
        emptyTextsAgainAndAgain();
        Check.end("TextBoundsTest");
    }

    // ---- the tape

    static void feedPutsTheHighestByteFirst() {
        for (int at = 0; at < 20; at++) {
            for (int sign : new int[] {'#', 0, 127, 128, 255}) {
                int[] n = {BLANKS, BLANKS, BLANKS, BLANKS, BLANKS};
                int shift = 24 - 8 * (at % 4);
                n[at / 4] = n[at / 4] & ~(255 << shift) | sign << shift;
                FenceSides x = new FenceSides();
                Check.due("promise 2: feed, byte " + at, x.feed(n[0], n[1], n[2], n[3], n[4]), 20);
                Check.due("promise 2: read, " + sign + " as byte " + at, x.read(), 1);
                Check.due("promise 2: place of " + sign + " as byte " + at, x.place(), at);
            }
        }
        FenceSides x = new FenceSides();
        x.feed(0x70657273, 0x6f6e2061, 0x62636465, 0x66676820, 0x31323b20);
        Check.due("promise 2: 'person abcdefgh 12; '", x.read(), 0);
        Check.due("promise 2: all twenty bytes in their order", x.person(0, 0), 12);
    }

    static void feedUpTo2000() {
        FenceSides x = new FenceSides();
        for (int i = 1; i <= 99; i++) {
            Check.due("promise 2: feed " + i, blanks(x), 20 * i);
        }
        Check.due("promise 2: the 100th feed: 2,000", blanks(x), 2000);
        Check.due("promise 2: no 101st", blanks(x), -1);
        x.back(1);
        Check.due("promise 2: 1,999 and 20", blanks(x), -1);
        x.back(18);
        Check.due("promise 2: 1,981 and 20", blanks(x), -1);
        Check.due("promise 2: still 1,981", x.count(8), 1981);
        x.back(1);
        Check.due("promise 2: 1,980 and 20", blanks(x), 2000);
        x.back(2000);
        Check.due("promise 2: 0 and 20", blanks(x), 20);
    }

    static void feedThatIsRefusedPutsNothing() {
        for (int bytes : new int[] {1981, 1999, 2000}) {
            FenceSides x = new FenceSides();
            Check.put(x, "field f;" + " ".repeat(bytes - 16) + "field g;");
            Check.due("promise 2: " + bytes + " bytes", x.count(8), bytes);
            Check.due("promise 2: refused at " + bytes, x.feed(-1, -1, -1, -1, -1), -1);
            Check.due("promise 2: nothing comes at " + bytes, x.count(8), bytes);
            Check.due("promise 2: what was there at " + bytes + " is read", x.read(), 0);
            Check.due("promise 2: both FIELDS of " + bytes, x.count(0), 2);
        }
        FenceSides x = new FenceSides();
        Check.put(x, " ".repeat(1981));
        x.feed(-1, -1, -1, -1, -1);
        x.back(1);
        blanks(x);
        Check.due("promise 2: refused bytes never come", x.read(), 0);
    }

    static void backTakesTheLast() {
        FenceSides x = new FenceSides();
        Check.put(x, "field f;#");
        Check.due("promise 3: back(1) of nine", x.back(1), 8);
        Check.due("promise 3: the last one went", x.read(), 0);
        Check.due("promise 3: the others stayed", x.count(0), 1);
        Check.put(x, "field f;field g;");
        Check.due("promise 3: back(8) of 16", x.back(8), 8);
        x.feed(0x66696564, 0x6c206820, BLANKS, BLANKS, BLANKS);
        x.back(20);
        x.feed(0x6669656c, 0x6420683b, 0x6669656c, 0x6420693b, BLANKS);
        Check.due("promise 3: what comes then is behind what stayed", x.read(), 0);
        Check.due("promise 3: three FIELDS", x.count(0), 3);
    }

    static void backOfMoreThanThereIs() {
        FenceSides x = new FenceSides();
        Check.due("promise 3: back(0) of none", x.back(0), 0);
        Check.due("promise 3: back(1) of none", x.back(1), -1);
        Check.due("promise 3: back(-1) of none", x.back(-1), -1);
        blanks(x);
        for (int n : new int[] {21, 22, 2000, MAX, -1, -20, MIN}) {
            Check.due("promise 3: back(" + n + ") of 20", x.back(n), -1);
            Check.due("promise 3: nothing goes by back(" + n + ")", x.count(8), 20);
        }
        Check.due("promise 3: back(0) of 20", x.back(0), 20);
        Check.due("promise 3: back(19) of 20", x.back(19), 1);
        Check.due("promise 3: back(2) of 1", x.back(2), -1);
        Check.due("promise 3: back(1) of 1", x.back(1), 0);
        blanks(x);
        Check.due("promise 3: back(20) of 20", x.back(20), 0);
        for (int i = 0; i < 100; i++) {
            blanks(x);
        }
        Check.due("promise 3: back(2001) of 2,000", x.back(2001), -1);
        Check.due("promise 3: back(1999) of 2,000", x.back(1999), 1);
        x.back(1);
        for (int i = 0; i < 100; i++) {
            blanks(x);
        }
        Check.due("promise 3: back(2000) of 2,000", x.back(2000), 0);
    }

    static void readOfAnEmptyTape() {
        FenceSides x = new FenceSides();
        Check.due("promise 4: a new object's tape", x.read(), 0);
        Check.due("promise 5: without a FAULT", x.place(), -1);
        Check.put(x, TWO);
        x.read();
        x.years(3);
        Check.due("promise 4: the empty text", x.read(), 0);
        Check.due("promise 4: is in place of the one ahead: no FIELDS", x.count(0), 0);
        Check.due("promise 4: no PEOPLE", x.count(1), 0);
        Check.due("promise 4: year 0", x.count(3), 0);
    }

    static void readEmptiesTheTape() {
        FenceSides x = new FenceSides();
        Check.put(x, TWO);
        x.read();
        Check.due("promise 4: empty behind a text without a FAULT", x.count(8), 0);
        Check.put(x, "#");
        Check.due("promise 4: SYNTAX", x.read(), 1);
        Check.due("promise 4: empty behind one with a FAULT", x.count(8), 0);
        Check.put(x, "seed 1;");
        Check.due("promise 4: nothing of it is left", x.read(), 0);
        Check.put(x, "field f;" + " ".repeat(1984) + "field g;");
        Check.due("promise 4: 2,000 bytes", x.read(), 0);
        Check.due("promise 4: the last ones too", x.count(0), 2);
        Check.due("promise 4: empty behind 2,000", x.count(8), 0);
        Check.due("promise 4: twenty more", blanks(x), 20);
    }

    static void placeOfTheLatestRead() {
        FenceSides x = new FenceSides();
        Check.due("promise 5: nothing was read", x.place(), -1);
        Check.put(x, "#");
        Check.due("promise 5: not read yet", x.place(), -1);
        x.read();
        Check.due("promise 5: byte 0", x.place(), 0);
        Check.put(x, "field f;");
        x.years(1);
        x.undo();
        Check.due("promise 5: the latest read's, whatever was done", x.place(), 0);
        x.read();
        Check.due("promise 5: without a FAULT", x.place(), -1);
        Check.put(x, " #");
        x.read();
        Check.due("promise 5: byte 1", x.place(), 1);
        Check.put(x, "field f;field f;");
        x.read();
        Check.due("promise 5: byte 14", x.place(), 14);
    }

    /** No FAULT of an earlier text stays. */
    static void placeBehindEachFault() {
        String[] texts = {"#", "field", fields(8), "field a;field a;", "heirs x y z;", "person a 100;"};
        int[] faults = {1, 1, 2, 3, 4, 5};
        int[] places = {0, 5, 56 + 7, 14, 6, 9};
        FenceSides x = new FenceSides();
        for (int i = 0; i < texts.length; i++) {
            for (int j = 0; j < texts.length; j++) {
                Check.put(x, texts[i]);
                Check.due("promise 4: the FAULT of <" + texts[i] + ">", x.read(), faults[i]);
                Check.due("promise 5: its place", x.place(), places[i]);
                if (i == j) {
                    Check.put(x, "seed 1;");
                    Check.due("promise 4: no FAULT behind <" + texts[i] + ">", x.read(), 0);
                    Check.due("promise 5: no place behind it", x.place(), -1);
                } else {
                    Check.put(x, texts[j]);
                    Check.due("promise 4: <" + texts[j] + "> behind <" + texts[i] + ">", x.read(), faults[j]);
                    Check.due("promise 5: the latest one's place", x.place(), places[j]);
                }
            }
        }
    }

    static void placeIsTheTextsEnd() {
        Check.fault("field", 1, 5);
        Check.fault("field f", 1, 7);
        Check.fault("field f;", 0, -1);
        Check.fault("field f \t\r\n", 1, 11);
        Check.fault("field f" + " ".repeat(1992), 1, 1999);
        Check.fault("field f" + " ".repeat(1993), 1, 2000);
        Check.fault(" ".repeat(1993) + "field f", 1, 2000);
        Check.fault(" ".repeat(1992) + "field f;", 0, -1);
        Check.fault(" ".repeat(1999) + "#", 1, 1999);
        Check.fault(" ".repeat(1999) + "a", 1, 1999);
    }

    static long blanks(FenceSides x) {
        return x.feed(BLANKS, BLANKS, BLANKS, BLANKS, BLANKS);
    }

    // ---- tokens

    static void namesOfEightLetters() {
        Check.fault("field x;", 0, -1);
        Check.fault("field abcdefg;", 0, -1);
        Check.fault("field abcdefgh;", 0, -1);
        Check.fault("field stuvwxyz;", 0, -1);
        Check.fault("field abcdefghi;", 1, 6);
        Check.fault("field aaaaaaaaa;", 1, 6);
        Check.fault("field " + "q".repeat(1994), 1, 6);
        Check.fault("fieldfieldfield f;", 1, 0);
        Check.fault("field abcdefgh;field abcdefgi;field bbcdefgh;", 0, -1);
        Check.fault("field abcdefgh;field abcdefgh;", 3, 21);
        Check.fault("field a;field aa;field aaa;field aaaa;field aaaaa;", 0, -1);
        Check.fault("field zzzzzzzz;field zzzzzzz;field zzzzzz;field zzzzz;", 0, -1);
        for (char sign : new char[] {'`', '{', 'A', 'Z', '@', '[', '_'}) {
            Check.fault("field " + sign + ";", 1, 6);
            Check.fault("field a" + sign + ";", 1, 7);
        }
        Check.fault("field a;field z;", 0, -1);
    }

    static void namesThatDifferInOneLetter() {
        String name = "mmmmmmmm";
        for (int at = 0; at < 8; at++) {
            for (char letter = 'a'; letter <= 'z'; letter++) {
                String other = name.substring(0, at) + letter + name.substring(at + 1);
                boolean same = letter == 'm';
                Check.fault("field " + name + ";person " + other + " 1;", same ? 3 : 0, same ? 22 : -1);
            }
        }
    }

    static void namesThatAreAlmostWords() {
        for (String word : WORDS) {
            for (int at = 0; at < word.length(); at++) {
                for (char letter = 'a'; letter <= 'z'; letter++) {
                    String other = word.substring(0, at) + letter + word.substring(at + 1);
                    boolean isWord = java.util.List.of(WORDS).contains(other);
                    Check.fault("field " + other + ";", isWord ? 1 : 0, isWord ? 6 : -1);
                }
            }
        }
    }

    static void namesAreNoWords() {
        for (String word : WORDS) {
            Check.fault("field " + word + ";", 1, 6);
            Check.fault("person " + word + " 1;", 1, 7);
            Check.fault("hedge " + word + " g a b 1;", 1, 6);
            Check.fault(TWO + "heirs a b " + word + ";", 1, TWO.length() + 10);
            Check.fault("field " + word + "x;", 0, -1);
            Check.fault("field x" + word + ";", 0, -1);
            String less = word.substring(0, word.length() - 1);
            Check.fault("field " + less + ";", 0, -1);
            Check.fault("field " + word.substring(1) + ";", 0, -1);
        }
    }

    static void intsOfFourDigits() {
        Check.fault("seed ;", 1, 5);
        Check.fault("seed 0;", 0, -1);
        Check.fault("seed 9;", 0, -1);
        Check.fault("seed 999;", 0, -1);
        Check.fault("seed 0000;", 0, -1);
        Check.fault("seed 9999;", 0, -1);
        Check.fault("seed 00000;", 1, 5);
        Check.fault("seed 10000;", 1, 5);
        Check.fault("seed 1 0;", 1, 7);
        Check.fault("seed " + "1".repeat(1995), 1, 5);
        Check.fault("dies = 12345;", 1, 7);
        Check.fault("dies = 1234 + 0001;", 0, -1);
        Check.fault("person a 0099;", 0, -1);
        Check.fault("person a 00099;", 1, 9);
        Check.due("promise 4: 0012 is 12", Check.of("person a 0012;").person(0, 0), 12);
    }

    /** All bytes between two INTS: blanks part them, digits lengthen them, four signs join them, all else does not go on. */
    static void everyByteBetweenTokens() {
        for (int b = 0; b < 256; b++) {
            String text = "dies=1" + (char) b + "1;";
            boolean digit = b >= '0' && b <= '9';
            boolean blank = b == 9 || b == 10 || b == 13 || b == 32;
            if (digit || b == '+' || b == '-' || b == '*' || b == '/') {
                Check.fault(text, 0, -1);
            } else {
                Check.fault(text, 1, blank || b == ';' ? 7 : 6);
            }
        }
    }

    /** All bytes where a TELL may begin, and behind one: nothing but blanks goes on by itself. */
    static void everyByteAsASign() {
        for (int b = 0; b < 256; b++) {
            boolean blank = b == 9 || b == 10 || b == 13 || b == 32;
            Check.fault("" + (char) b, blank ? 0 : 1, blank ? -1 : 0);
            Check.fault("seed 1;" + (char) b + "seed 2;", blank ? 0 : 1, blank ? -1 : 7);
        }
    }

    /** All bytes where a NAME, an INT is due: letters, digits, or blanks ahead of what is then not due. */
    static void everyByteAsANameOrAnInt() {
        for (int b = 0; b < 256; b++) {
            boolean letter = b >= 'a' && b <= 'z';
            boolean digit = b >= '0' && b <= '9';
            boolean blank = b == 9 || b == 10 || b == 13 || b == 32;
            Check.fault("field " + (char) b + ";", letter ? 0 : 1, letter ? -1 : blank ? 7 : 6);
            Check.fault("seed " + (char) b + ";", digit ? 0 : 1, digit ? -1 : blank ? 6 : 5);
            Check.fault("dies=" + (char) b + ";", digit ? 0 : 1, digit ? -1 : blank || b == '(' ? 6 : 5);
        }
    }

    static void blanksOrNot() {
        Check.fault("field f;person a12;person b 3;hedge f f a b12;", 3, 38);
        Check.fault("person a12;", 0, -1);
        Check.fault("person a 12 ;", 0, -1);
        Check.fault("persona12;", 1, 0);
        Check.fault("seed12;", 0, -1);
        Check.fault("dies=if age<5then 3else 4;", 0, -1);
        Check.fault("dies=if age<5 thenage else 4;", 1, 14);
        Check.fault("dies = ( age ) * ( 2 ) ;", 0, -1);
        Check.fault("fi eld f;", 1, 0);
        Check.fault("\t\n\r field\tf\n;\r", 0, -1);
        for (int b : new int[] {0, 8, 11, 12, 14, 31, 33, 127, 160}) {
            Check.fault("field" + (char) b + "f;", 1, 5);
        }
    }

    // ---- how many there may be

    static void emptyTexts() {
        Check.fault("", 0, -1);
        Check.fault(" ", 0, -1);
        Check.fault("\t", 0, -1);
        Check.fault("\n\r", 0, -1);
        Check.fault(" ".repeat(2000), 0, -1);
        Check.due("promise 4: laws alone", Check.of("grows = 1; seed 5;").count(0), 0);
    }

    static String fields(int n) {
        return tells(n, "field f", ";");
    }

    static String people(int n) {
        return tells(n, "person p", " 9;");
    }

    static String tells(int n, String ahead, String behind) {
        StringBuilder text = new StringBuilder();
        for (int i = 0; i < n; i++) {
            text.append(ahead).append((char) ('a' + i)).append(behind);
        }
        return text.toString();
    }

    static void fieldsAndPeopleFull() {
        for (int n = 0; n <= 7; n++) {
            Check.due("promise 4: " + n + " FIELDS", Check.of(fields(n)).count(0), n);
        }
        for (int n = 0; n <= 6; n++) {
            Check.due("promise 4: " + n + " PEOPLE", Check.of(people(n)).count(1), n);
        }
        Check.fault(fields(8), 2, fields(7).length());
        Check.fault(fields(7) + " field", 2, fields(7).length() + 1);
        Check.fault(fields(7) + "field 1", 2, fields(7).length());
        Check.fault(people(7), 2, people(6).length());
        Check.fault(people(6) + " person", 2, people(6).length() + 1);
        Check.fault(fields(7) + people(6), 0, -1);
        Check.fault(fields(7) + people(7), 2, (fields(7) + people(6)).length());
        Check.fault(people(6) + fields(8), 2, (people(6) + fields(7)).length());
    }

    static void hedgesAndHeirsFull() {
        String ahead = fields(2) + people(3);
        String hedge = "hedge fa fb pa pb 1;";
        String heirs = "heirs pa pb pc;";
        for (int n : new int[] {0, 1, 9, 10}) {
            Check.due("promise 4: " + n + " HEDGES", Check.of(ahead + hedge.repeat(n)).count(2), n);
        }
        Check.fault(ahead + hedge.repeat(11), 2, ahead.length() + 10 * hedge.length());
        Check.fault(ahead + hedge.repeat(10) + "hedge", 2, ahead.length() + 10 * hedge.length());
        for (int n : new int[] {0, 1, 5, 6}) {
            Check.fault(ahead + heirs.repeat(n), 0, -1);
        }
        Check.fault(ahead + heirs.repeat(7), 2, ahead.length() + 6 * heirs.length());
        Check.fault(ahead + heirs.repeat(6) + " heirs ;", 2, ahead.length() + 6 * heirs.length() + 1);
        Check.fault(ahead + "heirs pa pb pc;heirs pb pa pc;heirs pc pa pb;".repeat(2) + "heirs pa pb pc;", 2, ahead.length() + 6 * heirs.length());
        Check.fault(ahead + hedge.repeat(10) + heirs.repeat(6), 0, -1);
    }

    static void lawsAndSeedsAreNeverFull() {
        Check.fault("seed 1;".repeat(133), 0, -1);
        for (String law : new String[] {"grows", "dies", "falls", "costs"}) {
            Check.fault((law + "=1;").repeat(100), 0, -1);
        }
    }

    static void agesAndHeights() {
        String hedge = TWO + "hedge f g a b ";
        for (int n : new int[] {0, 1, 98, 99}) {
            Check.due("promise 4: AGE " + n, Check.of("person a " + n + ";").person(0, 0), n);
            Check.due("promise 4: HIGH " + n, Check.of(hedge + n + ";").hedge(0, 4), n);
        }
        for (String n : new String[] {"100", "101", "0100", "999", "1000", "9999"}) {
            Check.fault("person a " + n + ";", 5, 9);
            Check.fault(hedge + n + ";", 5, hedge.length());
        }
        Check.fault("person a -1;", 1, 9);
        Check.fault(hedge + "-1;", 1, hedge.length());
        Check.fault("person a 99;person b 100;", 5, 21);
    }

    static void seeds() {
        for (int seed : new int[] {0, 1, 9998, 9999}) {
            FenceSides x = Check.of("person a 1; dies = " + YearBoundsTest.lot(seed, 0) + "; seed " + seed + ";");
            FenceSides y = Check.of("person a 1; dies = " + (YearBoundsTest.lot(seed, 0) + 1) + "; seed " + seed + ";");
            Check.due("promise 4: SEED " + seed + ", LOT as DIES", x.aliveIn(1), 1);
            Check.due("promise 4: SEED " + seed + ", LOT less than DIES", y.aliveIn(1), 0);
        }
        Check.fault("seed 10000;", 1, 5);
        Check.fault("seed -1;", 1, 5);
    }

    static void numberedAsTheyStand() {
        FenceSides x = Check.of("person e 50; field q; person a 10; field b; hedge b q a e 3; person c 30; hedge q b e c 4;"
            + "field aa; heirs c a e; hedge b aa c a 5;");
        int[][] due = {{1, 0, 1, 0, 3}, {0, 1, 0, 2, 4}, {1, 2, 2, 1, 5}};
        for (int h = 0; h < 3; h++) {
            for (int what = 0; what < 5; what++) {
                Check.due("promise 6: numbered from 0 on, hedge(" + h + ", " + what + ")", x.hedge(h, what), due[h][what]);
            }
        }
        for (int p = 0; p < 3; p++) {
            Check.due("promise 7: numbered from 0 on, AGE of " + p, x.person(p, 0), new int[] {50, 10, 30}[p]);
        }
        Check.due("promise 7: heir to OUTER", x.person(2, 3), 1);
        Check.due("promise 7: heir to INNER", x.person(2, 4), 0);
    }

    static void lastHeirsLawsAndSeed() {
        FenceSides none = Check.of(TWO + "hedge f g a b 42;");
        Check.due("promise 7: no heir to OUTER", none.person(0, 3), -2);
        Check.due("promise 7: no heir to INNER", none.person(0, 4), -2);
        Check.due("promise 6: GROWS if not told", none.hedge(0, 7), 1);
        Check.due("promise 6: FALLS if not told", none.hedge(0, 8), 0);
        Check.due("promise 6: COSTS if not told", none.hedge(0, 9), 42);
        Check.due("promise 7: DIES if not told", none.person(0, 6), 0);
        FenceSides last = Check.of(TWO + "hedge f g a b 42;heirs a b c;heirs b a c;heirs a c b;"
            + "grows=5;falls=1;costs=6;dies=7;grows=2;falls=0;costs=3;dies=4;");
        Check.due("promise 7: the last HEIRS, OUTER", last.person(0, 3), 2);
        Check.due("promise 7: the last HEIRS, INNER", last.person(0, 4), 1);
        Check.due("promise 7: another one's stay, OUTER", last.person(1, 3), 0);
        Check.due("promise 7: another one's stay, INNER", last.person(1, 4), 2);
        Check.due("promise 6: the last GROWS", last.hedge(0, 7), 2);
        Check.due("promise 6: the last FALLS", last.hedge(0, 8), 0);
        Check.due("promise 6: the last COSTS", last.hedge(0, 9), 3);
        Check.due("promise 7: the last DIES", last.person(0, 6), 4);
        int lot = YearBoundsTest.lot(0, 0);
        int other = 1;
        while (YearBoundsTest.lot(other, 0) <= lot) {
            other++;
        }
        // LOT of SEED 0 is less than DIES, that of the other one is not.
        String dies = "person a 1; dies = " + (lot + 1) + ";";
        Check.due("promise 4: SEED 0 if not told", Check.of(dies).aliveIn(1), 0);
        Check.due("promise 4: SEED told", Check.of(dies + "seed " + other + ";").aliveIn(1), 1);
        Check.due("promise 4: the last SEED", Check.of("seed 0;" + dies + "seed " + other + ";").aliveIn(1), 1);
        Check.due("promise 4: the last SEED is 0", Check.of("seed " + other + ";" + dies + "seed 0;").aliveIn(1), 0);
    }

    // ---- faults

    static void the401stToken() {
        String most = "dies=1;".repeat(99);
        Check.fault(most + "seed 1;", 0, -1);
        Check.fault(most + "dies=1;", 0, -1);
        Check.fault(most + "dies=1;\t ", 0, -1);
        Check.fault(most + "dies=1;seed 1;", 2, 700);
        Check.fault(most + "dies=1; seed", 2, 701);
        Check.fault(most + "seed 1;seed 1;", 2, 705);
        Check.fault(most + "seed 1;seed", 1, 704);
        Check.fault(most + "dies=(1);", 2, 700);
        Check.fault(most + "dies=1+1;", 2, 700);
        Check.fault("seed 1;".repeat(133) + "seed", 1, 935);
        Check.fault("seed 1;".repeat(133) + "seed 1;", 2, 936);
        for (String word : new String[] {"field", "person", "hedge", "heirs", "grows", "dies", "falls", "costs", "seed"}) {
            Check.fault(most + "dies=1;" + word, 2, 700);
        }
    }

    /** 400 TOKENS, 393 of them one E: the last of them counts. */
    static void aLawOfAllTokens() {
        FenceSides x = Check.of("person a 1;dies=" + "0+".repeat(196) + "7;");
        Check.due("promise 7: the 399th TOKEN", x.person(0, 6), 7);
        FenceSides y = Check.of("person a 1;dies=9" + "+1-1".repeat(98) + ";");
        Check.due("promise 7: 393 TOKENS", y.person(0, 6), 9);
        FenceSides z = Check.of("dies=5;".repeat(98) + "person a 1;" + "dies=6;");
        Check.due("promise 7: the last of 99 LAWS", z.person(0, 6), 6);
        Check.fault("person a 1;dies=" + "0+".repeat(196) + "7+1;", 2, 16 + 2 * 196 + 2);
    }

    static void the5thIf() {
        String one = "if 1<2 then 3 else ";
        for (String law : new String[] {"grows=", "dies=", "falls=", "costs="}) {
            for (int n = 0; n <= 4; n++) {
                Check.fault(law + one.repeat(n) + "5;", 0, -1);
            }
            Check.fault(law + one.repeat(5) + "5;", 2, law.length() + 4 * one.length());
            Check.fault(law + one.repeat(4) + " if", 2, law.length() + 4 * one.length() + 1);
            Check.fault(law + one.repeat(6) + "5;", 2, law.length() + 4 * one.length());
        }
        String four = "dies=" + one.repeat(4) + "5;";
        Check.fault(four + four, 0, -1);
        Check.fault(four + "dies=" + one.repeat(5) + "5;", 2, four.length() + 5 + 4 * one.length());
    }

    static void the7thBracket() {
        Check.fault("dies=(((((1)))));", 0, -1);
        Check.fault("dies=((((((1))))));", 0, -1);
        Check.fault("dies=(((((((1)))))));", 2, 11);
        Check.fault("dies=((((((((1))))))));", 2, 11);
        Check.fault("dies=(((((((", 2, 11);
        Check.fault("dies=((((((", 1, 11);
        Check.fault("dies=(1)+(1)*(1)-(1)/(1)+(1)+(1)+(1);", 0, -1);
        Check.fault("dies=((((((1))))))*((((((1))))));", 0, -1);
        Check.fault("dies=((((((1+(1)))))));", 2, 13);
        Check.fault("dies=((((((1*(1)))))));", 2, 13);
        Check.fault("dies=(((((1)+(1)))));", 0, -1);
        Check.fault("dies=(((((1+(1))))));", 0, -1);
        Check.fault("dies=(((((1))+((1)))));", 0, -1);
        for (int n = 6; n <= 7; n++) {
            String deep = "(".repeat(n) + "1" + ")".repeat(n);
            Check.fault("dies=if " + deep + "<1 then 1 else 1;", n == 6 ? 0 : 2, n == 6 ? -1 : 14);
            Check.fault("dies=if 1<" + deep + " then 1 else 1;", n == 6 ? 0 : 2, n == 6 ? -1 : 16);
            Check.fault("dies=if 1<1 then " + deep + " else 1;", n == 6 ? 0 : 2, n == 6 ? -1 : 23);
            Check.fault("dies=if 1<1 then 1 else " + deep + ";", n == 6 ? 0 : 2, n == 6 ? -1 : 30);
        }
    }

    static void ofOnePlaceTheLeast() {
        String full = "dies=1;".repeat(100);
        Check.fault(full + "#", 1, 700);
        Check.fault(full + ";", 1, 700);
        Check.fault(full + "12345", 1, 700);
        Check.fault(full + "abcdefghi", 1, 700);
        Check.fault(full + "a", 1, 700);
        String fewer = "dies=1;".repeat(99) + "dies=1+";
        Check.fault(fewer + "1", 2, 700);
        Check.fault(fewer + "(", 2, 700);
        Check.fault(fewer + ")", 1, 700);
        Check.fault(fewer + ";", 1, 700);
        Check.fault(fewer + "a", 1, 700);
        Check.fault(fewer, 1, 700);
        // A 401st TOKEN that is one more of a sort as well.
        Check.fault(fields(7) + "seed 1;" + "dies=1;".repeat(94) + "field x;", 2, fields(7).length() + 7 + 658);
    }

    static void theFirstByItsPlace() {
        Check.fault(fields(8) + "#", 2, fields(7).length());
        Check.fault("#" + fields(8), 1, 0);
        Check.fault(fields(7) + "field", 2, fields(7).length());
        Check.fault("seed seed;" + "dies=1;".repeat(120), 1, 5);
        Check.fault("dies=(((((((1)))))));" + "seed seed;", 2, 11);
        Check.fault("dies=1;".repeat(101) + "#", 2, 700);
        Check.fault(people(7) + fields(8), 2, people(6).length());
        // SYNTAX and ROOM go ahead of all others, wherever they are.
        Check.fault("person a 100;field a;heirs x x x;#", 1, 33);
        Check.fault("person a 100;field a;heirs x x x;" + fields(8), 2, 33 + fields(6).length());
        Check.fault("field a;field a;seed", 1, 20);
    }

    /** A TELL that breaks off where another one begins, with a FAULT behind. */
    static void theFirstOfTwoOfASort() {
        String[] tells = {"field h ;", "person p 7 ;", "hedge f g a b 7 ;", "heirs a b c ;", "seed 7 ;",
            "grows = if ( high ) < 2 then 3 * 4 else 5 + 6 / 7 ;", "dies = 1 ;", "falls = ( 1 ) ;", "costs = 1 - 2 ;"};
        for (String tell : tells) {
            for (int at = tell.indexOf(' '); at >= 0; at = tell.indexOf(' ', at + 1)) {
                for (String behind : new String[] {"seed 1;#", "field x;seed seed", "dies=1;dies=(((((((1)))))));", "heirs a b c;;"}) {
                    Check.fault(TWO + tell.substring(0, at + 1) + behind, 1, TWO.length() + at + 1);
                }
            }
        }
        Check.fault(fields(8) + fields(8), 2, fields(7).length());
        Check.fault("dies=(((((((1)))))));dies=(((((((1)))))));", 2, 11);
        Check.fault("field a;field a;field a;", 3, 14);
        Check.fault("heirs x y z;heirs x y z;", 4, 6);
        Check.fault("person a 100;person b 100;", 5, 9);
    }

    static void lesserFaultsByTheirPlace() {
        Check.fault("person a 100;field a;", 5, 9);
        Check.fault("field a;person a 100;", 3, 15);
        Check.fault("heirs x x x;person a 100;person a 1;", 4, 6);
        Check.fault(TWO + "hedge x x x x 100;", 4, TWO.length() + 6);
        Check.fault(TWO + "hedge f f x x 100;", 3, TWO.length() + 8);
        Check.fault(TWO + "hedge f g x x 100;", 4, TWO.length() + 10);
        Check.fault(TWO + "hedge f g a x 100;", 4, TWO.length() + 12);
        Check.fault(TWO + "hedge f g a b 100;", 5, TWO.length() + 14);
        Check.fault(TWO + "heirs a a x;", 3, TWO.length() + 8);
        Check.fault(TWO + "heirs a x a;", 4, TWO.length() + 8);
        Check.fault(TWO + "heirs a b a;", 3, TWO.length() + 10);
    }

    static void toldTwice() {
        Check.fault("field a;field a;", 3, 14);
        Check.fault("person a 1;person a 1;", 3, 18);
        Check.fault("field a;person a 1;", 3, 15);
        Check.fault("person a 1;field a;", 3, 17);
        Check.fault(fields(7) + "person fg 1;", 3, fields(7).length() + 7);
        Check.fault(fields(6) + "field fa;", 3, fields(6).length() + 6);
        Check.fault(fields(6) + "field ff;", 3, fields(6).length() + 6);
        Check.fault(people(5) + "person pe 1;", 3, people(5).length() + 7);
        Check.fault(people(6) + "field pf;", 3, people(6).length() + 6);
        Check.fault(TWO + "hedge f f a b 1;", 3, TWO.length() + 8);
        Check.fault(TWO + "hedge g g a b 1;", 3, TWO.length() + 8);
        Check.fault(TWO + "hedge f g a a 1;", 0, -1);
        Check.fault(TWO + "hedge f g a b 1;hedge f g a b 1;", 0, -1);
        Check.fault(TWO + "heirs c c a;", 3, TWO.length() + 8);
        Check.fault(TWO + "heirs c a c;", 3, TWO.length() + 10);
        Check.fault(TWO + "heirs c a a;", 0, -1);
    }

    static void toldAhead() {
        Check.fault("field f;field g;person a 1;hedge f g a a 1;", 0, -1);
        Check.fault("field f;person a 1;hedge f g a a 1;field g;", 4, 27);
        Check.fault("field g;person a 1;hedge f g a a 1;field f;", 4, 25);
        Check.fault("field f;field g;hedge f g a a 1;person a 1;", 4, 26);
        Check.fault("field f;field g;person a 1;hedge f g a b 1;person b 1;", 4, 39);
        Check.fault("person a 1;heirs a b b;person b 1;", 4, 19);
        Check.fault("person b 1;heirs a b b;person a 1;", 4, 17);
        Check.fault("person a 1;person b 1;heirs a b c;person c 1;", 4, 32);
        Check.fault(TWO + "hedge a g a b 1;", 4, TWO.length() + 6);
        Check.fault(TWO + "hedge f a a b 1;", 4, TWO.length() + 8);
        Check.fault(TWO + "hedge f g f b 1;", 4, TWO.length() + 10);
        Check.fault(TWO + "hedge f g a g 1;", 4, TWO.length() + 12);
        Check.fault(TWO + "heirs f a b;", 4, TWO.length() + 6);
        Check.fault(TWO + "heirs a f b;", 4, TWO.length() + 8);
        Check.fault(TWO + "heirs a b f;", 4, TWO.length() + 10);
        Check.fault(TWO + "heirs aa b c;", 4, TWO.length() + 6);
    }

    // ---- what a text does

    static void aFaultChangesNothing() {
        String[] faults = {"field x;#", "#", "person x 1;" + fields(8), "field x;field x;", "heirs x y z;", "person x 100;",
            "grows=9;dies=99;falls=9;costs=9;seed 7;heirs pb pa", "person x 1;dies=(((((((1)))))));", "seed 5;" + "dies=9;".repeat(100)};
        for (String text : faults) {
            FenceSides x = Twin.rich();
            FenceSides y = Twin.rich();
            y.back(y.count(8));
            x.back(x.count(8));
            Check.put(x, text);
            Check.due("promise 4: a FAULT in <" + text + ">", x.read() > 0, true);
            Twin.alike("promise 4: a FAULT changes nothing but the tape, <" + text + ">", x, y);
        }
    }

    static void aTextInPlaceOfTheOneAhead() {
        FenceSides x = Twin.rich();
        x.back(x.count(8));
        Check.put(x, "field k;person q 4;");
        Check.due("promise 4: another text", x.read(), 0);
        int[] due = {1, 1, 0, 0, 1, 0, 0, 0, 0, 0, 0, 0, 0, 0, 0, 4, 1, 0};
        for (int what = 0; what < due.length; what++) {
            Check.due("promise 4: in place of the one ahead, count(" + what + ")", x.count(what), due[what]);
        }
        Check.due("promise 4: nothing can be undone", x.undo(), false);
        for (int slot = 0; slot < 3; slot++) {
            Check.due("promise 4: SLOT " + slot + " holds nothing", x.restore(slot), false);
        }
        Check.due("promise 4: nothing is TOLD", x.forget(), 0);
        Check.due("promise 4: no spouse", x.person(0, 2), -2);
        Check.due("promise 4: no heir", x.person(0, 3), -2);
        Check.due("promise 4: DIES as if not told", x.person(0, 6), 0);
        Check.due("promise 4: alive", x.person(0, 1), 1);
        FenceSides turns = new FenceSides();
        for (int turn = 0; turn < 3; turn++) {
            Check.put(turns, "field f;field g;person a 1;person b 1;hedge f g a b 50;heirs a b b;grows=3;dies=if 1<2 then 4 else 5;falls=6;costs=if 2<1 then 7 else 8;seed 9;");
            Check.due("promise 4: all LAWS told, turn " + turn, turns.read(), 0);
            int[] told = {turns.hedge(0, 7), turns.hedge(0, 8), turns.hedge(0, 9), turns.person(0, 6), turns.person(0, 3)};
            int[] dueThen = {3, 1, 8, 4, 1};
            for (int i = 0; i < 5; i++) {
                Check.due("promise 4: LAWS and HEIRS told, " + i + ", turn " + turn, told[i], dueThen[i]);
            }
            for (int again = 0; again < 2; again++) {
                Check.put(turns, "field f;field g;person a 1;person b 1;hedge f g a b 50;");
                Check.due("promise 4: no LAWS told, turn " + turn, turns.read(), 0);
                int[] bare = {turns.hedge(0, 7), turns.hedge(0, 8), turns.hedge(0, 9), turns.person(0, 6), turns.person(0, 3)};
                int[] dueBare = {1, 0, 50, 0, -2};
                for (int i = 0; i < 5; i++) {
                    Check.due("promise 4: LAWS and HEIRS not told, " + i + ", turn " + turn + again, bare[i], dueBare[i]);
                }
            }
        }
        FenceSides same = Twin.rich();
        same.back(same.count(8));
        Check.put(same, Twin.TEXT);
        Check.due("promise 4: the same text again", same.read(), 0);
        Twin.alike("promise 4: the same text again, from its beginning", same, Check.of(Twin.TEXT));
    }

    /** Nothing of the texts ahead counts, of those with a FAULT neither. */
    static void fullTextsAgainAndAgain() {
        FenceSides x = new FenceSides();
        for (int turn = 0; turn < 7; turn++) {
            Check.put(x, turn % 3 == 2 ? Twin.TEXT + "#" : Twin.TEXT);
            Check.due("promise 4: the full text, turn " + turn, x.read(), turn % 3 == 2 ? 1 : 0);
            Check.due("promise 41: FIELDS, turn " + turn, x.count(0), 7);
            Check.due("promise 41: PEOPLE, turn " + turn, x.count(1), 6);
            Check.due("promise 41: HEDGES, turn " + turn, x.count(2), 10);
            Check.due("promise 6: the first HEDGE, turn " + turn, x.hedge(0, 4), 10);
            Check.due("promise 6: the last HEDGE, turn " + turn, x.hedge(9, 4), 60);
        }
    }

    /** LAWS as long as can be, read again and again: those of texts ahead, with a FAULT or not, take no room. */
    static void longLawsAgainAndAgain() {
        String hedge = "field f;field g;person a 1;person b 1;hedge f g a b 7;";
        for (String end : new String[] {";", ";#", ";field f;"}) {
            FenceSides x = Check.of(hedge);
            for (int turn = 0; turn < 8; turn++) {
                Check.put(x, hedge + "dies=" + "0+".repeat(180) + (turn + 1) + end);
                Check.due("promise 4: a LAW of 361 TOKENS, turn " + turn + end, x.read(), end.equals(";") ? 0 : end.equals(";#") ? 1 : 3);
                Check.due("promise 7: what it comes to, turn " + turn + end, x.person(1, 6), end.equals(";") ? turn + 1 : 0);
                Check.due("promise 6: GROWS if not told, turn " + turn + end, x.hedge(0, 7), 1);
                Check.due("promise 6: COSTS if not told, turn " + turn + end, x.hedge(0, 9), 7);
            }
            Check.put(x, hedge + "grows=" + "0+".repeat(180) + "5;");
            Check.due("promise 4: another LAW behind " + end, x.read(), 0);
            Check.due("promise 6: GROWS behind " + end, x.hedge(0, 7), 5);
            Check.due("promise 7: DIES if not told, behind " + end, x.person(1, 6), 0);
        }
    }

    static void emptyTextsAgainAndAgain() {
        FenceSides x = new FenceSides();
        for (int turn = 0; turn < 400; turn++) {
            Check.due("promise 4: the empty text, turn " + turn, x.read(), 0);
        }
        for (int turn = 0; turn < 2; turn++) {
            Check.put(x, TWO + "hedge f g a b 42;falls=3;dies=4;");
            Check.due("promise 4: a text behind 400 empty ones", x.read(), 0);
            Check.due("promise 6: GROWS if not told, behind 400", x.hedge(0, 7), 1);
            Check.due("promise 6: FALLS behind 400", x.hedge(0, 8), 1);
            Check.due("promise 6: COSTS if not told, behind 400", x.hedge(0, 9), 42);
            Check.due("promise 7: DIES behind 400", x.person(0, 6), 4);
        }
    }
}
