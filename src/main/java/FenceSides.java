/** A parish where fences are inherited by the side: what it tells of is in the document, promise by promise. */
public final class FenceSides {
    public static final int NONE = -1;

    private static final int NOBODY = -2;
    private static final int MOST_FIELDS = 7;
    private static final int MOST_PEOPLE = 6;
    private static final int MOST_HEDGES = 10;
    private static final int MOST_FACES = 20;
    private static final int MOST_HEIRS = 6;
    private static final int LONGEST = 60;
    private static final int HIGHEST_HEDGE = 99;
    private static final int OLDEST = 199;
    private static final int MOST_SEEDS = 20;
    private static final int SLOTS = 3;
    private static final int LONGEST_LINE = 6;

    private static final int GROWS = 0;
    private static final int DIES = 1;
    private static final int FALLS = 2;
    private static final int COSTS = 3;
    private static final int LAWS = 4;

    private static final int HIGH_VAR = 0;
    private static final int YEARS_VAR = 1;
    private static final int AGE_VAR = 2;
    private static final int FACES_VAR = 3;
    private static final int WHICH_VAR = 4;
    private static final int OUTER_VAR = 5;
    private static final int INNER_VAR = 6;
    private static final int CLIPPED_VAR = 7;
    private static final int GAPS_VAR = 8;
    private static final int VARS = 9;

    private final Tape tape;
    private final Reader reader;
    private Parish parish;
    private Parish draft;
    private final State now;
    private final State trial;
    private final Seasons seasons;
    private final Roads roads;
    private final Matches matches;
    private final History history;
    private final Told told;
    private final State[] slots;
    private int held;

    public FenceSides() {
        tape = new Tape();
        reader = new Reader();
        parish = new Parish();
        draft = new Parish();
        now = new State();
        trial = new State();
        seasons = new Seasons();
        roads = new Roads();
        matches = new Matches();
        history = new History();
        told = new Told();
        slots = new State[SLOTS];
        for (int slot = 0; slot < SLOTS; slot++) {
            slots[slot] = new State();
        }
        held = 0;
    }

    // ---- the tape

    public int feed(int a, int b, int c, int d, int e) {
        if (tape.length + Tape.AT_ONCE > Tape.ROOM) {
            return NONE;
        }
        tape.putFour(a);
        tape.putFour(b);
        tape.putFour(c);
        tape.putFour(d);
        tape.putFour(e);
        return tape.length;
    }

    public int back(int n) {
        if (n < 0 || n > tape.length) {
            return NONE;
        }
        tape.length -= n;
        return tape.length;
    }

    public int read() {
        draft.clear();
        reader.readInto(draft, tape);
        tape.length = 0;
        if (reader.fault == 0) {
            Parish earlier = parish;
            parish = draft;
            draft = earlier;
            parish.begin(now);
            history.forgetAll();
            told.size = 0;
            held = 0;
        }
        return reader.fault;
    }

    public int place() {
        return reader.faultPlace;
    }

    // ---- what is

    public int hedge(int hedge, int what) {
        if (!isHedge(hedge)) {
            return NONE;
        }
        switch (what) {
            case 0: return parish.fieldAt[2 * hedge];
            case 1: return parish.fieldAt[2 * hedge + 1];
            case 2: return now.owner[2 * hedge];
            case 3: return now.owner[2 * hedge + 1];
            case 4: return now.high[hedge];
            case 5: return now.hasGap(hedge) ? 1 : 0;
            case 6: return now.year - now.clipYear[hedge];
            case 7: return seasons.growsOf(parish, now, hedge);
            case 8: return seasons.fallsOf(parish, now, hedge) ? 1 : 0;
            case 9: return seasons.costsOf(parish, now, hedge);
            default: return NONE;
        }
    }

    public int person(int person, int what) {
        if (!isPerson(person)) {
            return NONE;
        }
        switch (what) {
            case 0: return now.age[person];
            case 1: return now.isAlive(person) ? 1 : 0;
            case 2: return now.spouse[person];
            case 3: return parish.heir[2 * person];
            case 4: return parish.heir[2 * person + 1];
            case 5: return now.facesOf(person);
            case 6: return seasons.diesOf(parish, now, person);
            default: return NONE;
        }
    }

    public int count(int what) {
        switch (what) {
            case 0: return parish.fields;
            case 1: return parish.people;
            case 2: return parish.hedges;
            case 3: return now.year;
            case 4: return now.alive;
            case 5: return marriedOnes();
            case 6: return now.gapBits;
            case 7: return ownerlessFaces();
            case 8: return tape.length;
            case 9: return history.size;
            case 10: return told.size;
            case 11: return Integer.bitCount(held);
            case 12: return heightOfAll();
            case 13: return dueOfAll();
            case 14: return now.everClipped;
            case 15: return agesOfAll();
            case 16: return Integer.bitCount(now.alive);
            case 17: return Integer.bitCount(now.gapBits);
            default: return NONE;
        }
    }

    private int marriedOnes() {
        int bits = 0;
        for (int person = 0; person < parish.people; person++) {
            if (now.isAlive(person) && now.isMarried(person)) {
                bits |= 1 << person;
            }
        }
        return bits;
    }

    private int ownerlessFaces() {
        int faces = 0;
        for (int face = 0; face < 2 * parish.hedges; face++) {
            if (now.owner[face] == NOBODY) {
                faces++;
            }
        }
        return faces;
    }

    private int heightOfAll() {
        int sum = 0;
        for (int hedge = 0; hedge < parish.hedges; hedge++) {
            if (!now.hasGap(hedge)) {
                sum += now.high[hedge];
            }
        }
        return sum;
    }

    private int dueOfAll() {
        int sum = 0;
        for (int person = 0; person < parish.people; person++) {
            sum += seasons.dueOf(parish, now, person);
        }
        return sum;
    }

    private int agesOfAll() {
        int sum = 0;
        for (int person = 0; person < parish.people; person++) {
            if (now.isAlive(person)) {
                sum += now.age[person];
            }
        }
        return sum;
    }

    // ---- what is done by hand

    public boolean clip(int person, int hedge) {
        if (!holdsFaceOf(person, hedge)) {
            return false;
        }
        history.keep(now);
        now.cutDown(hedge);
        return true;
    }

    public boolean sell(int hedge, int face, int person) {
        if (!isFace(hedge, face) || !isAlivePerson(person) || now.owner[2 * hedge + face] == person) {
            return false;
        }
        history.keep(now);
        now.owner[2 * hedge + face] = person;
        return true;
    }

    public boolean close(int person, int hedge) {
        if (!holdsFaceOf(person, hedge) || !now.hasGap(hedge)) {
            return false;
        }
        history.keep(now);
        now.gapBits &= ~(1 << hedge);
        now.cutDown(hedge);
        return true;
    }

    public boolean marry(int person, int other) {
        if (person == other || !isAlivePerson(person) || !isAlivePerson(other)) {
            return false;
        }
        if (now.isMarried(person) || now.isMarried(other)) {
            return false;
        }
        history.keep(now);
        now.spouse[person] = other;
        now.spouse[other] = person;
        return true;
    }

    public int years(int n) {
        if (!isSpan(n)) {
            return NONE;
        }
        if (n > 0) {
            history.keep(now);
            seasons.pass(parish, now, n, parish.seed, true);
        }
        return now.year;
    }

    public boolean undo() {
        return history.takeBack(now);
    }

    // ---- what would be

    public int crosses(int person, int hedge) {
        if (!isAlivePerson(person) || !isHedge(hedge)) {
            return NONE;
        }
        return Roads.leavesNeeded(now, person, hedge) == 0 ? 1 : 0;
    }

    public int ask(int person, int from, int to, int what) {
        if (!isWay(person, from, to) || what < 0 || what > 1) {
            return NONE;
        }
        int asked = roads.fewestAsked(parish, now, person, from, to);
        if (asked < 0) {
            return NOBODY;
        }
        return what == 0 ? Integer.bitCount(asked) : asked;
    }

    public int open(int person, int from) {
        if (!isAlivePerson(person) || !isField(from)) {
            return NONE;
        }
        return roads.openTo(parish, now, person, from);
    }

    public int shut(int person) {
        if (!isAlivePerson(person)) {
            return NONE;
        }
        int bits = 0;
        for (int field = 0; field < parish.fields; field++) {
            if (roads.openTo(parish, now, person, field) == 1 << field) {
                bits |= 1 << field;
            }
        }
        return bits;
    }

    public int matched(int i) {
        if (i != NONE && !isPerson(i)) {
            return NONE;
        }
        matches.find(parish, now);
        return i == NONE ? matches.bestWeight : matches.best[i];
    }

    public int will(int person, int other) {
        if (person == other || !isAlivePerson(person) || !isAlivePerson(other)) {
            return NONE;
        }
        int alive = now.alive & ~(1 << person);
        int more = 0;
        for (int face = 0; face < 2 * parish.hedges; face++) {
            if (now.owner[face] == person && parish.leftTo(now, alive, person, face) == other) {
                more++;
            }
        }
        return more;
    }

    public int highest(int n, int what) {
        if (!isSpan(n) || what < 0 || what > 1) {
            return NONE;
        }
        if (parish.hedges == 0) {
            return NOBODY;
        }
        tryYears(n, false);
        int best = 0;
        for (int hedge = 1; hedge < parish.hedges; hedge++) {
            if (trial.high[hedge] > trial.high[best]) {
                best = hedge;
            }
        }
        return what == 0 ? best : trial.high[best];
    }

    public int due(int person) {
        return isPerson(person) ? seasons.dueOf(parish, now, person) : NONE;
    }

    public int buy(int person, int from, int to) {
        if (!isWay(person, from, to)) {
            return NONE;
        }
        int asked = roads.fewestAsked(parish, now, person, from, to);
        if (asked < 0) {
            return NOBODY;
        }
        int most = Integer.bitCount(asked);
        for (int face = 0; face < 2 * parish.hedges; face++) {
            if (now.owner[face] != person) {
                trial.copy(now);
                trial.owner[face] = person;
                if (Integer.bitCount(roads.fewestAsked(parish, trial, person, from, to)) < most) {
                    return faceCode(face);
                }
            }
        }
        return NOBODY;
    }

    public int gates(int person, int from, int to) {
        if (!isWay(person, from, to)) {
            return NONE;
        }
        int asked = roads.fewestAsked(parish, now, person, from, to);
        if (asked < 0) {
            return 0;
        }
        int most = Integer.bitCount(asked);
        int bits = 0;
        for (int hedge = 0; hedge < parish.hedges; hedge++) {
            if (!now.hasGap(hedge)) {
                trial.copy(now);
                trial.gapBits |= 1 << hedge;
                if (Integer.bitCount(roads.fewestAsked(parish, trial, person, from, to)) < most) {
                    bits |= 1 << hedge;
                }
            }
        }
        return bits;
    }

    public int line(int hedge, int face, int i) {
        if (!isFace(hedge, face) || i < 0 || i > LONGEST_LINE) {
            return NONE;
        }
        int alive = now.alive;
        int owner = now.owner[2 * hedge + face];
        for (int step = 0; step < i && owner >= 0; step++) {
            alive &= ~(1 << owner);
            owner = parish.leftTo(now, alive, owner, face);
        }
        return owner;
    }

    public int eldest(int what) {
        if (what < 0 || what > 1) {
            return NONE;
        }
        int best = NOBODY;
        for (int person = 0; person < parish.people; person++) {
            if (now.isAlive(person) && (best < 0 || now.age[person] > now.age[best])) {
                best = person;
            }
        }
        return what == 0 || best < 0 ? best : now.age[best];
    }

    public int ones() {
        int bits = 0;
        for (int hedge = 0; hedge < parish.hedges; hedge++) {
            if (!now.hasGap(hedge) && now.isOfOneHouse(hedge)) {
                bits |= 1 << hedge;
            }
        }
        return bits;
    }

    public int neighbours(int person) {
        if (!isPerson(person)) {
            return NONE;
        }
        int bits = 0;
        for (int face = 0; face < 2 * parish.hedges; face++) {
            int across = now.owner[face ^ 1];
            if (now.owner[face] == person && across >= 0 && across != person && !now.hasGap(face / 2)) {
                bits |= 1 << across;
            }
        }
        return bits;
    }

    public int between(int field, int other) {
        if (!isField(field) || !isField(other)) {
            return NONE;
        }
        int bits = 0;
        for (int face = 0; face < 2 * parish.hedges; face++) {
            if (parish.fieldAt[face] == field && parish.fieldAt[face ^ 1] == other) {
                bits |= 1 << (face / 2);
            }
        }
        return bits;
    }

    public int gaps(int n) {
        if (!isSpan(n)) {
            return NONE;
        }
        tryYears(n, false);
        return Integer.bitCount(trial.gapBits);
    }

    public int most(int what) {
        if (what < 0 || what > 1) {
            return NONE;
        }
        int best = NOBODY;
        for (int person = 0; person < parish.people; person++) {
            if (now.isAlive(person) && (best < 0 || now.facesOf(person) > now.facesOf(best))) {
                best = person;
            }
        }
        return what == 0 || best < 0 ? best : now.facesOf(best);
    }

    public int whose(int hedge, int face, int n) {
        if (!isFace(hedge, face) || !isSpan(n)) {
            return NONE;
        }
        tryYears(n, true);
        return trial.owner[2 * hedge + face];
    }

    public int then(int hedge, int n, int what) {
        if (!isHedge(hedge) || !isSpan(n) || what < 0 || what > 1) {
            return NONE;
        }
        tryYears(n, true);
        if (what == 0) {
            return trial.high[hedge];
        }
        return trial.hasGap(hedge) ? 1 : 0;
    }

    public int aliveIn(int n) {
        if (!isSpan(n)) {
            return NONE;
        }
        tryYears(n, true);
        return trial.alive;
    }

    public int year(int person, int n, int s) {
        if (!isPerson(person) || !isSpan(n) || s < 1 || s > MOST_SEEDS) {
            return NONE;
        }
        int times = 0;
        for (int more = 0; more < s; more++) {
            trial.copy(now);
            seasons.pass(parish, trial, n, parish.seed + more, true);
            if (trial.isAlive(person)) {
                times++;
            }
        }
        return times;
    }

    // ---- who it was that died

    public int tell(int hedge, int face, int person, boolean so) {
        if (!isFace(hedge, face) || !isPerson(person) || told.size >= Told.ROOM) {
            return NONE;
        }
        return told.add(2 * hedge + face, person, so);
    }

    public int forget() {
        int size = told.size;
        told.size = 0;
        return size;
    }

    public int died(int k, int what) {
        if (k < 0 || k > told.size || what < 0 || what > 1) {
            return NONE;
        }
        int left = told.leftBy(parish, now, k);
        return what == 0 ? Integer.bitCount(left) : left;
    }

    public int look(int k) {
        if (k < 0 || k > told.size) {
            return NONE;
        }
        int left = told.leftBy(parish, now, k);
        if (left == 0 || parish.hedges == 0) {
            return NOBODY;
        }
        int best = 0;
        int fewest = MOST_PEOPLE + 1;
        for (int face = 0; face < 2 * parish.hedges; face++) {
            int worst = told.worstLeft(parish, now, left, face);
            if (worst < fewest) {
                fewest = worst;
                best = face;
            }
        }
        return faceCode(best);
    }

    // ---- held, gone on from

    public boolean hold(int slot) {
        if (slot < 0 || slot >= SLOTS) {
            return false;
        }
        slots[slot].copy(now);
        held |= 1 << slot;
        return true;
    }

    public boolean restore(int slot) {
        if (slot < 0 || slot >= SLOTS || (held >> slot & 1) == 0) {
            return false;
        }
        now.copy(slots[slot]);
        history.forgetAll();
        return true;
    }

    // ---- what there is

    private boolean isField(int field) {
        return field >= 0 && field < parish.fields;
    }

    private boolean isPerson(int person) {
        return person >= 0 && person < parish.people;
    }

    private boolean isAlivePerson(int person) {
        return isPerson(person) && now.isAlive(person);
    }

    private boolean isHedge(int hedge) {
        return hedge >= 0 && hedge < parish.hedges;
    }

    private boolean isFace(int hedge, int face) {
        return isHedge(hedge) && face >= 0 && face <= 1;
    }

    private boolean isSpan(int n) {
        return n >= 0 && n <= LONGEST;
    }

    private boolean isWay(int person, int from, int to) {
        return isAlivePerson(person) && isField(from) && isField(to);
    }

    private boolean holdsFaceOf(int person, int hedge) {
        return isAlivePerson(person) && isHedge(hedge)
            && (now.owner[2 * hedge] == person || now.owner[2 * hedge + 1] == person);
    }

    private void tryYears(int n, boolean deaths) {
        trial.copy(now);
        seasons.pass(parish, trial, n, parish.seed, deaths);
    }

    private static int faceCode(int face) {
        return 10 * (face / 2) + face % 2;
    }

    // ---- the parts

    /** The bytes that wait to be read. */
    private static final class Tape {
        static final int ROOM = 2000;
        static final int AT_ONCE = 20;

        final byte[] bytes = new byte[ROOM];
        int length;

        void putFour(int four) {
            for (int shift = 24; shift >= 0 && length < ROOM; shift -= 8) {
                bytes[length] = (byte) (four >>> shift);
                length++;
            }
        }

        /** The byte at a place as 0 .. 255; NONE behind the end. */
        int byteAt(int at) {
            return at >= 0 && at < length ? bytes[at] & 255 : NONE;
        }
    }

    /** The tokens of a text, up to its end or to the first thing that is no token. */
    private static final class Tokens {
        static final int ROOM = 400;
        static final int LONGEST_NAME = 8;
        static final int LONGEST_INT = 4;

        // Words are kinds 0 .. 20 as they stand here, eight signs for each.
        static final String WORDS = "field   person  hedge   heirs   grows   dies    falls   costs   seed    if      then    else    high    years   age     faces   which   outer   inner   clipped gaps    ";
        static final String SIGNS = ";=+-*/<()";

        static final int FIELD = 0;
        static final int PERSON = 1;
        static final int HEDGE = 2;
        static final int HEIRS = 3;
        static final int FIRST_LAW = 4;
        static final int LAST_LAW = 7;
        static final int SEED = 8;
        static final int IF = 9;
        static final int THEN = 10;
        static final int ELSE = 11;
        static final int FIRST_VAR = 12;
        static final int LAST_VAR = 20;
        static final int NAME = 21;
        static final int INT = 22;
        static final int SEMICOLON = 23;
        static final int EQUAL = 24;
        static final int PLUS = 25;
        static final int MINUS = 26;
        static final int TIMES = 27;
        static final int BY = 28;
        static final int LESS = 29;
        static final int OPENING = 30;
        static final int CLOSING = 31;
        static final int NO_TOKEN = 32;
        static final int END = 33;

        // One more than there may be, so that the first one too many can be told.
        final int[] kinds = new int[ROOM + 1];
        final int[] places = new int[ROOM + 1];
        final long[] values = new long[ROOM + 1];
        final long[] words = new long[NAME];

        Tokens() {
            for (int word = 0; word < NAME; word++) {
                for (int at = 0; at < LONGEST_NAME; at++) {
                    char sign = WORDS.charAt(LONGEST_NAME * word + at);
                    if (sign != ' ') {
                        words[word] = withLetter(words[word], sign);
                    }
                }
            }
        }

        void cut(Tape tape) {
            int at = 0;
            for (int size = 0; size <= ROOM; size++) {
                at = afterBlanks(tape, at);
                places[size] = at;
                at = cutOne(tape, at, size);
                if (kinds[size] == NO_TOKEN || kinds[size] == END) {
                    return;
                }
            }
        }

        private static int afterBlanks(Tape tape, int from) {
            int at = from;
            while (at < tape.length && isBlank(tape.byteAt(at))) {
                at++;
            }
            return at;
        }

        private int cutOne(Tape tape, int at, int index) {
            int sign = tape.byteAt(at);
            if (sign == NONE) {
                kinds[index] = END;
                return at;
            }
            if (isLetter(sign)) {
                return cutWord(tape, at, index);
            }
            if (isDigit(sign)) {
                return cutInt(tape, at, index);
            }
            int which = SIGNS.indexOf((char) sign);
            kinds[index] = which >= 0 ? SEMICOLON + which : NO_TOKEN;
            return at + 1;
        }

        private int cutWord(Tape tape, int from, int index) {
            int at = from;
            long code = 0;
            while (at < tape.length && isLetter(tape.byteAt(at))) {
                code = withLetter(code, tape.byteAt(at));
                at++;
            }
            values[index] = code;
            kinds[index] = at - from > LONGEST_NAME ? NO_TOKEN : kindOfWord(code);
            return at;
        }

        private int cutInt(Tape tape, int from, int index) {
            int at = from;
            long value = 0;
            while (at < tape.length && isDigit(tape.byteAt(at))) {
                value = 10 * value + tape.byteAt(at) - '0';
                at++;
            }
            values[index] = value;
            kinds[index] = at - from > LONGEST_INT ? NO_TOKEN : INT;
            return at;
        }

        private int kindOfWord(long code) {
            for (int word = 0; word < NAME; word++) {
                if (words[word] == code) {
                    return word;
                }
            }
            return NAME;
        }

        // Five bits a letter, none of them 0: eight letters never look like others.
        private static long withLetter(long code, int letter) {
            return code << 5 | letter - 'a' + 1;
        }

        private static boolean isBlank(int sign) {
            return sign == 9 || sign == 10 || sign == 13 || sign == 32;
        }

        private static boolean isLetter(int sign) {
            return sign >= 'a' && sign <= 'z';
        }

        private static boolean isDigit(int sign) {
            return sign >= '0' && sign <= '9';
        }
    }

    /** Reads a text into a parish that nothing else knows yet, and tells the text's fault. */
    private static final class Reader {
        static final int SYNTAX = 1;
        static final int FULL = 2;
        static final int TWICE = 3;
        static final int UNKNOWN = 4;
        static final int WRONG = 5;
        static final int MOST_IFS = 4;
        static final int DEEPEST = 6;
        static final int LARGEST = 99;

        final Tokens tokens = new Tokens();
        int fault;
        int faultPlace = NONE;
        private int at;
        // What is wrong though the text is well formed counts only if all of it is.
        private int lesserFault;
        private int lesserPlace;

        void readInto(Parish parish, Tape tape) {
            tokens.cut(tape);
            at = 0;
            fault = 0;
            faultPlace = NONE;
            lesserFault = 0;
            lesserPlace = NONE;
            boolean well = true;
            for (int turn = 0; turn <= Tokens.ROOM && well && kind() != Tokens.END; turn++) {
                switch (kind()) {
                    case Tokens.FIELD: well = readField(parish); break;
                    case Tokens.PERSON: well = readPerson(parish); break;
                    case Tokens.HEDGE: well = readHedge(parish); break;
                    case Tokens.HEIRS: well = readHeirs(parish); break;
                    case Tokens.SEED: well = readSeed(parish); break;
                    default: well = readLaw(parish); break;
                }
            }
            if (fault == 0) {
                fault = lesserFault;
                faultPlace = lesserPlace;
            }
        }

        private boolean readField(Parish parish) {
            if (parish.fields >= MOST_FIELDS) {
                return fail(FULL);
            }
            if (!take(Tokens.FIELD) || !takeNewName(parish)) {
                return false;
            }
            parish.fieldName[parish.fields] = lastValue();
            parish.fields++;
            return take(Tokens.SEMICOLON);
        }

        private boolean readPerson(Parish parish) {
            if (parish.people >= MOST_PEOPLE) {
                return fail(FULL);
            }
            if (!take(Tokens.PERSON) || !takeNewName(parish)) {
                return false;
            }
            parish.personName[parish.people] = lastValue();
            if (!takeSmall()) {
                return false;
            }
            parish.firstAge[parish.people] = (int) lastValue();
            parish.people++;
            return take(Tokens.SEMICOLON);
        }

        private boolean readHedge(Parish parish) {
            if (parish.hedges >= MOST_HEDGES) {
                return fail(FULL);
            }
            int hedge = parish.hedges;
            if (!take(Tokens.HEDGE) || !takeField(parish)) {
                return false;
            }
            long outer = lastValue();
            parish.fieldAt[2 * hedge] = parish.fieldNamed(outer);
            noteIfAgain(outer);
            if (!takeField(parish)) {
                return false;
            }
            parish.fieldAt[2 * hedge + 1] = parish.fieldNamed(lastValue());
            for (int face = 0; face < 2; face++) {
                if (!takePerson(parish)) {
                    return false;
                }
                parish.firstOwner[2 * hedge + face] = parish.personNamed(lastValue());
            }
            if (!takeSmall()) {
                return false;
            }
            parish.firstHigh[hedge] = (int) lastValue();
            parish.hedges++;
            return take(Tokens.SEMICOLON);
        }

        private boolean readHeirs(Parish parish) {
            if (parish.heirsTold >= MOST_HEIRS) {
                return fail(FULL);
            }
            if (!take(Tokens.HEIRS) || !takePerson(parish)) {
                return false;
            }
            long name = lastValue();
            int person = parish.personNamed(name);
            for (int face = 0; face < 2; face++) {
                noteIfAgain(name);
                if (!takePerson(parish)) {
                    return false;
                }
                if (person >= 0) {
                    parish.heir[2 * person + face] = parish.personNamed(lastValue());
                }
            }
            parish.heirsTold++;
            return take(Tokens.SEMICOLON);
        }

        private boolean readSeed(Parish parish) {
            if (!take(Tokens.SEED) || !take(Tokens.INT)) {
                return false;
            }
            parish.seed = (int) lastValue();
            return take(Tokens.SEMICOLON);
        }

        private boolean readLaw(Parish parish) {
            int which = kind() - Tokens.FIRST_LAW;
            if (which < 0 || which >= LAWS) {
                return fail(SYNTAX);
            }
            Laws laws = parish.laws;
            laws.begin(which);
            if (!take(Tokens.FIRST_LAW + which) || !take(Tokens.EQUAL)) {
                return false;
            }
            for (int ifs = 0; ifs <= MOST_IFS && kind() == Tokens.IF; ifs++) {
                if (ifs == MOST_IFS) {
                    return fail(FULL);
                }
                if (!readIf(laws)) {
                    return false;
                }
            }
            if (!readSum(laws, 0)) {
                return false;
            }
            laws.end(which);
            return take(Tokens.SEMICOLON);
        }

        private boolean readIf(Laws laws) {
            if (!take(Tokens.IF) || !readSum(laws, 0) || !take(Tokens.LESS) || !readSum(laws, 0)) {
                return false;
            }
            int jump = laws.add(Laws.UNLESS_LESS, 0);
            if (!take(Tokens.THEN) || !readSum(laws, 0) || !take(Tokens.ELSE)) {
                return false;
            }
            laws.add(Laws.STOP, 0);
            laws.jumpHere(jump);
            return true;
        }

        private boolean readSum(Laws laws, int depth) {
            if (!readProduct(laws, depth)) {
                return false;
            }
            for (int turn = 0; turn <= Tokens.ROOM && (kind() == Tokens.PLUS || kind() == Tokens.MINUS); turn++) {
                int sign = kind();
                if (!take(sign) || !readProduct(laws, depth)) {
                    return false;
                }
                laws.add(sign == Tokens.PLUS ? Laws.ADD : Laws.SUBTRACT, 0);
            }
            return true;
        }

        private boolean readProduct(Laws laws, int depth) {
            if (!readUnit(laws, depth)) {
                return false;
            }
            for (int turn = 0; turn <= Tokens.ROOM && (kind() == Tokens.TIMES || kind() == Tokens.BY); turn++) {
                int sign = kind();
                if (!take(sign) || !readUnit(laws, depth)) {
                    return false;
                }
                laws.add(sign == Tokens.TIMES ? Laws.MULTIPLY : Laws.DIVIDE, 0);
            }
            return true;
        }

        private boolean readUnit(Laws laws, int depth) {
            int kind = kind();
            if (kind == Tokens.OPENING) {
                if (depth >= DEEPEST) {
                    return fail(FULL);
                }
                return take(Tokens.OPENING) && readSum(laws, depth + 1) && take(Tokens.CLOSING);
            }
            if (kind >= Tokens.FIRST_VAR && kind <= Tokens.LAST_VAR) {
                laws.add(Laws.VARIABLE, kind - Tokens.FIRST_VAR);
                return take(kind);
            }
            if (!take(Tokens.INT)) {
                return false;
            }
            laws.add(Laws.NUMBER, (int) lastValue());
            return true;
        }

        private boolean takeNewName(Parish parish) {
            if (kind() == Tokens.NAME && parish.isNamed(value())) {
                note(TWICE);
            }
            return take(Tokens.NAME);
        }

        private boolean takeField(Parish parish) {
            if (kind() == Tokens.NAME && parish.fieldNamed(value()) < 0) {
                note(UNKNOWN);
            }
            return take(Tokens.NAME);
        }

        private boolean takePerson(Parish parish) {
            if (kind() == Tokens.NAME && parish.personNamed(value()) < 0) {
                note(UNKNOWN);
            }
            return take(Tokens.NAME);
        }

        private boolean takeSmall() {
            if (kind() == Tokens.INT && value() > LARGEST) {
                note(WRONG);
            }
            return take(Tokens.INT);
        }

        private void noteIfAgain(long name) {
            if (kind() == Tokens.NAME && value() == name) {
                note(TWICE);
            }
        }

        private boolean take(int kind) {
            if (tokens.kinds[at] == kind && at < Tokens.ROOM) {
                at++;
                return true;
            }
            fault = tokens.kinds[at] == kind ? FULL : SYNTAX;
            faultPlace = tokens.places[at];
            return false;
        }

        private boolean fail(int number) {
            fault = number;
            faultPlace = tokens.places[at];
            return false;
        }

        // Tokens come by their places, so the first one noted is the one that counts.
        private void note(int number) {
            if (lesserFault == 0) {
                lesserFault = number;
                lesserPlace = tokens.places[at];
            }
        }

        private int kind() {
            return tokens.kinds[at];
        }

        private long value() {
            return tokens.values[at];
        }

        private long lastValue() {
            return at > 0 ? tokens.values[at - 1] : 0;
        }
    }

    /** The laws of a text as one row of steps over a stack; jumps go forward alone. */
    private static final class Laws {
        static final int NUMBER = 0;
        static final int VARIABLE = 1;
        static final int ADD = 2;
        static final int SUBTRACT = 3;
        static final int MULTIPLY = 4;
        static final int DIVIDE = 5;
        static final int UNLESS_LESS = 6;
        static final int STOP = 7;

        // One step for each law not told, else none without a token of its own; a law told again stands behind.
        private final int[] steps = new int[Tokens.ROOM + LAWS];
        private final int[] numbers = new int[Tokens.ROOM + LAWS];
        private final int[] first = new int[LAWS];
        private final int[] behind = new int[LAWS];
        private int size;

        void clear() {
            size = 0;
            putOnly(GROWS, NUMBER, 1);
            putOnly(DIES, NUMBER, 0);
            putOnly(FALLS, NUMBER, 0);
            putOnly(COSTS, VARIABLE, HIGH_VAR);
        }

        private void putOnly(int law, int step, int number) {
            begin(law);
            add(step, number);
            end(law);
        }

        void begin(int law) {
            first[law] = size;
        }

        void end(int law) {
            behind[law] = size;
        }

        /** Which step it is. */
        int add(int step, int number) {
            if (size < steps.length) {
                steps[size] = step;
                numbers[size] = number;
                size++;
            }
            return size - 1;
        }

        void jumpHere(int jump) {
            if (jump >= 0 && jump < size) {
                numbers[jump] = size;
            }
        }

        int valueOf(int law, int[] vars, int[] stack) {
            int top = 0;
            for (int at = first[law]; at < behind[law]; at++) {
                int step = steps[at];
                if (step <= VARIABLE) {
                    if (top >= stack.length) {
                        return 0;
                    }
                    stack[top] = step == NUMBER ? numbers[at] : vars[numbers[at]];
                    top++;
                } else if (step == STOP) {
                    break;
                } else {
                    if (top < 2) {
                        return 0;
                    }
                    int right = stack[top - 1];
                    int left = stack[top - 2];
                    if (step == UNLESS_LESS) {
                        top -= 2;
                        at = left < right ? at : Math.max(at, numbers[at] - 1);
                    } else if (step == DIVIDE && right == 0) {
                        return 0;
                    } else {
                        top--;
                        stack[top - 1] = joined(step, left, right);
                    }
                }
            }
            return top > 0 ? stack[top - 1] : 0;
        }

        private static int joined(int step, int left, int right) {
            switch (step) {
                case ADD: return left + right;
                case SUBTRACT: return left - right;
                case MULTIPLY: return left * right;
                default: return right == 0 ? 0 : left / right;
            }
        }
    }

    /** What a text tells, and what stays so in all years. A face is 2 * its hedge, 1 more for the inner one. */
    private static final class Parish {
        final long[] fieldName = new long[MOST_FIELDS];
        final long[] personName = new long[MOST_PEOPLE];
        final int[] firstAge = new int[MOST_PEOPLE];
        final int[] heir = new int[2 * MOST_PEOPLE];
        final int[] fieldAt = new int[MOST_FACES];
        final int[] firstOwner = new int[MOST_FACES];
        final int[] firstHigh = new int[MOST_HEDGES];
        final Laws laws = new Laws();
        int fields;
        int people;
        int hedges;
        int heirsTold;
        int seed;

        Parish() {
            clear();
        }

        void clear() {
            fields = 0;
            people = 0;
            hedges = 0;
            heirsTold = 0;
            seed = 0;
            for (int i = 0; i < heir.length; i++) {
                heir[i] = NOBODY;
            }
            laws.clear();
        }

        void begin(State state) {
            state.year = 0;
            state.alive = (1 << people) - 1;
            state.gapBits = 0;
            state.everClipped = 0;
            for (int person = 0; person < people; person++) {
                state.age[person] = firstAge[person];
                state.spouse[person] = NOBODY;
            }
            for (int hedge = 0; hedge < hedges; hedge++) {
                state.high[hedge] = firstHigh[hedge];
                state.clipYear[hedge] = 0;
            }
            for (int face = 0; face < MOST_FACES; face++) {
                state.owner[face] = face < 2 * hedges ? firstOwner[face] : NOBODY;
            }
        }

        boolean isNamed(long name) {
            return fieldNamed(name) >= 0 || personNamed(name) >= 0;
        }

        int fieldNamed(long name) {
            for (int field = 0; field < fields; field++) {
                if (fieldName[field] == name) {
                    return field;
                }
            }
            return NOBODY;
        }

        int personNamed(long name) {
            for (int person = 0; person < people; person++) {
                if (personName[person] == name) {
                    return person;
                }
            }
            return NOBODY;
        }

        /** Whose a face of one who dies is then; those alive are told, the dying one no longer among them. */
        int leftTo(State state, int alive, int person, int face) {
            int next = heir[2 * person + (face & 1)];
            if (next >= 0 && (alive >> next & 1) == 1) {
                return next;
            }
            int spouse = state.spouse[person];
            return spouse >= 0 && (alive >> spouse & 1) == 1 ? spouse : NOBODY;
        }

        /** Whose a face would be, did one die now. */
        int ownerWithout(State state, int person, int face) {
            int owner = state.owner[face];
            return owner == person ? leftTo(state, state.alive & ~(1 << person), person, face) : owner;
        }
    }

    /** All that goes on. */
    private static final class State {
        int year;
        int alive;
        int gapBits;
        int everClipped;
        final int[] age = new int[MOST_PEOPLE];
        final int[] spouse = new int[MOST_PEOPLE];
        final int[] owner = new int[MOST_FACES];
        final int[] high = new int[MOST_HEDGES];
        // 0 for one never clipped, so that the years since then are the year.
        final int[] clipYear = new int[MOST_HEDGES];

        void copy(State other) {
            year = other.year;
            alive = other.alive;
            gapBits = other.gapBits;
            everClipped = other.everClipped;
            System.arraycopy(other.age, 0, age, 0, MOST_PEOPLE);
            System.arraycopy(other.spouse, 0, spouse, 0, MOST_PEOPLE);
            System.arraycopy(other.owner, 0, owner, 0, MOST_FACES);
            System.arraycopy(other.high, 0, high, 0, MOST_HEDGES);
            System.arraycopy(other.clipYear, 0, clipYear, 0, MOST_HEDGES);
        }

        boolean isAlive(int person) {
            return (alive >> person & 1) == 1;
        }

        /** Of one alive: a widow is not married. */
        boolean isMarried(int person) {
            return spouse[person] >= 0 && isAlive(spouse[person]);
        }

        boolean hasGap(int hedge) {
            return (gapBits >> hedge & 1) == 1;
        }

        int facesOf(int person) {
            int faces = 0;
            for (int face = 0; face < MOST_FACES; face++) {
                if (owner[face] == person) {
                    faces++;
                }
            }
            return faces;
        }

        int ageOfOwner(int face) {
            return owner[face] >= 0 ? age[owner[face]] : 0;
        }

        /** Whether both faces are one's, or spouses'. */
        boolean isOfOneHouse(int hedge) {
            int outer = owner[2 * hedge];
            int inner = owner[2 * hedge + 1];
            return outer >= 0 && inner >= 0 && (outer == inner || spouse[outer] == inner);
        }

        void cutDown(int hedge) {
            high[hedge] = 0;
            clipYear[hedge] = year;
            everClipped |= 1 << hedge;
        }
    }

    /** The laws as they are at a time, and the years that go by. */
    private static final class Seasons {
        static final int PERCENT = 100;
        // Two open sums a bracket, and those of an if's first side.
        private final int[] stack = new int[64];
        private final int[] vars = new int[VARS];
        private final int[] growth = new int[MOST_HEDGES];

        int growsOf(Parish parish, State state, int hedge) {
            lookAtHedge(state, hedge);
            return within(parish.laws.valueOf(GROWS, vars, stack), HIGHEST_HEDGE);
        }

        boolean fallsOf(Parish parish, State state, int hedge) {
            lookAtHedge(state, hedge);
            return parish.laws.valueOf(FALLS, vars, stack) > 0;
        }

        int costsOf(Parish parish, State state, int hedge) {
            lookAtHedge(state, hedge);
            return within(parish.laws.valueOf(COSTS, vars, stack), HIGHEST_HEDGE);
        }

        int diesOf(Parish parish, State state, int person) {
            lookAtAll(state, person);
            vars[AGE_VAR] = state.age[person];
            vars[FACES_VAR] = state.facesOf(person);
            return within(parish.laws.valueOf(DIES, vars, stack), PERCENT);
        }

        int dueOf(Parish parish, State state, int person) {
            int sum = 0;
            for (int face = 0; face < 2 * parish.hedges; face++) {
                if (state.owner[face] == person && !state.hasGap(face / 2)) {
                    sum += costsOf(parish, state, face / 2) / 2;
                }
            }
            return sum;
        }

        void pass(Parish parish, State state, int n, int seed, boolean deaths) {
            for (int i = 0; i < n; i++) {
                passOne(parish, state, seed, deaths);
            }
        }

        private void passOne(Parish parish, State state, int seed, boolean deaths) {
            int dying = deaths ? dyingOnes(parish, state, seed) : 0;
            int falling = 0;
            for (int hedge = 0; hedge < parish.hedges; hedge++) {
                if (!state.hasGap(hedge)) {
                    lookAtHedge(state, hedge);
                    growth[hedge] = within(parish.laws.valueOf(GROWS, vars, stack), HIGHEST_HEDGE);
                    falling |= parish.laws.valueOf(FALLS, vars, stack) > 0 ? 1 << hedge : 0;
                }
            }
            state.alive &= ~dying;
            leaveAll(parish, state, dying);
            for (int person = 0; person < parish.people; person++) {
                if (state.isAlive(person)) {
                    state.age[person] = Math.min(OLDEST, state.age[person] + 1);
                }
            }
            for (int hedge = 0; hedge < parish.hedges; hedge++) {
                if (!state.hasGap(hedge)) {
                    state.high[hedge] = Math.min(HIGHEST_HEDGE, state.high[hedge] + growth[hedge]);
                    if ((falling >> hedge & 1) == 1 || state.isOfOneHouse(hedge)) {
                        state.gapBits |= 1 << hedge;
                    }
                }
            }
            state.year++;
        }

        private int dyingOnes(Parish parish, State state, int seed) {
            int bits = 0;
            for (int person = 0; person < parish.people; person++) {
                if (state.isAlive(person)) {
                    int lot = lotOf(seed, 8 * state.year + person);
                    bits |= lot < diesOf(parish, state, person) ? 1 << person : 0;
                }
            }
            return bits;
        }

        private static void leaveAll(Parish parish, State state, int dying) {
            for (int face = 0; dying != 0 && face < 2 * parish.hedges; face++) {
                int owner = state.owner[face];
                if (owner >= 0 && (dying >> owner & 1) == 1) {
                    state.owner[face] = parish.leftTo(state, state.alive, owner, face);
                }
            }
        }

        private static int lotOf(int seed, int which) {
            int mixed = stirred(stirred(seed, 155), which);
            return (mixed >>> 1) % PERCENT;
        }

        private static int stirred(int before, int with) {
            int h = (before ^ with) * 1103515245 + 12345;
            return h ^ h >>> 15;
        }

        private void lookAtHedge(State state, int hedge) {
            lookAtAll(state, hedge);
            vars[HIGH_VAR] = state.high[hedge];
            vars[OUTER_VAR] = state.ageOfOwner(2 * hedge);
            vars[INNER_VAR] = state.ageOfOwner(2 * hedge + 1);
            vars[CLIPPED_VAR] = state.year - state.clipYear[hedge];
        }

        private void lookAtAll(State state, int which) {
            for (int i = 0; i < VARS; i++) {
                vars[i] = 0;
            }
            vars[WHICH_VAR] = which;
            vars[YEARS_VAR] = state.year;
            vars[GAPS_VAR] = Integer.bitCount(state.gapBits);
        }

        private static int within(int value, int most) {
            return Math.max(0, Math.min(most, value));
        }
    }

    /** The ways over the fields. */
    private static final class Roads {
        private final int[] needed = new int[MOST_HEDGES];

        /** Those (bits) who must be asked before one crosses a hedge. */
        static int leavesNeeded(State state, int person, int hedge) {
            if (state.hasGap(hedge)) {
                return 0;
            }
            int bits = 0;
            for (int face = 2 * hedge; face <= 2 * hedge + 1; face++) {
                int owner = state.owner[face];
                if (owner >= 0 && owner != person && owner != state.spouse[person]) {
                    bits |= 1 << owner;
                }
            }
            return bits;
        }

        int openTo(Parish parish, State state, int person, int from) {
            lookAt(parish, state, person);
            return reached(parish, from, 0);
        }

        /** Those (bits) who must be asked, NOBODY if all together are not enough. */
        int fewestAsked(Parish parish, State state, int person, int from, int to) {
            lookAt(parish, state, person);
            int others = state.alive & ~(1 << person);
            int best = NOBODY;
            // Upwards, so that of as many the least bits come first.
            for (int asked = 0; asked <= others; asked++) {
                boolean fewer = best < 0 || Integer.bitCount(asked) < Integer.bitCount(best);
                if (fewer && (asked & ~others) == 0 && (reached(parish, from, asked) >> to & 1) == 1) {
                    best = asked;
                }
            }
            return best;
        }

        private void lookAt(Parish parish, State state, int person) {
            for (int hedge = 0; hedge < parish.hedges; hedge++) {
                needed[hedge] = leavesNeeded(state, person, hedge);
            }
        }

        private int reached(Parish parish, int from, int asked) {
            int seen = 1 << from;
            // Each round but the last one comes to one field more at least.
            for (int round = 0; round < MOST_FIELDS; round++) {
                int before = seen;
                for (int hedge = 0; hedge < parish.hedges; hedge++) {
                    int both = 1 << parish.fieldAt[2 * hedge] | 1 << parish.fieldAt[2 * hedge + 1];
                    if ((needed[hedge] & ~asked) == 0 && (seen & both) != 0) {
                        seen |= both;
                    }
                }
                if (seen == before) {
                    return seen;
                }
            }
            return seen;
        }
    }

    /** The marriages that join most hedges. */
    private static final class Matches {
        final int[] best = new int[MOST_PEOPLE];
        int bestWeight;
        private final int[] partner = new int[MOST_PEOPLE];
        private final int[] weights = new int[MOST_PEOPLE * MOST_PEOPLE];
        private int free;
        private int people;

        void find(Parish parish, State state) {
            people = parish.people;
            free = 0;
            for (int person = 0; person < people; person++) {
                partner[person] = NOBODY;
                if (state.isAlive(person) && !state.isMarried(person)) {
                    free |= 1 << person;
                }
                for (int other = 0; other < people; other++) {
                    weights[MOST_PEOPLE * person + other] = joinedBy(parish, state, 1 << person | 1 << other);
                }
            }
            bestWeight = NONE;
            pairFrom(0, 0);
        }

        private static int joinedBy(Parish parish, State state, int pair) {
            int hedges = 0;
            for (int hedge = 0; hedge < parish.hedges; hedge++) {
                int outer = state.owner[2 * hedge];
                int inner = state.owner[2 * hedge + 1];
                boolean owned = outer >= 0 && inner >= 0 && !state.hasGap(hedge);
                if (owned && (pair >> outer & 1) == 1 && (pair >> inner & 1) == 1) {
                    hedges++;
                }
            }
            return hedges;
        }

        // Nobody first, then the lowest, from the first person on: the first of the best ones found is the one told.
        private void pairFrom(int person, int weight) {
            if (person >= people) {
                if (weight > bestWeight) {
                    bestWeight = weight;
                    System.arraycopy(partner, 0, best, 0, MOST_PEOPLE);
                }
                return;
            }
            pairFrom(person + 1, weight);
            if (!isFree(person)) {
                return;
            }
            for (int other = person + 1; other < people; other++) {
                if (isFree(other)) {
                    partner[person] = other;
                    partner[other] = person;
                    pairFrom(person + 1, weight + weights[MOST_PEOPLE * person + other]);
                    partner[person] = NOBODY;
                    partner[other] = NOBODY;
                }
            }
        }

        private boolean isFree(int person) {
            return (free >> person & 1) == 1 && partner[person] == NOBODY;
        }
    }

    /** How it was ahead of each of the last things done. */
    private static final class History {
        static final int ROOM = 40;

        private final State[] earlier = new State[ROOM];
        private int next;
        int size;

        History() {
            for (int i = 0; i < ROOM; i++) {
                earlier[i] = new State();
            }
        }

        void keep(State state) {
            earlier[next].copy(state);
            next = (next + 1) % ROOM;
            size = Math.min(ROOM, size + 1);
        }

        boolean takeBack(State state) {
            if (size == 0) {
                return false;
            }
            size--;
            next = (next + ROOM - 1) % ROOM;
            state.copy(earlier[next]);
            return true;
        }

        void forgetAll() {
            size = 0;
        }
    }

    /** What is told of the faces once an unknown one has died. */
    private static final class Told {
        static final int ROOM = 20;

        private final int[] faces = new int[ROOM];
        private final int[] people = new int[ROOM];
        private final boolean[] so = new boolean[ROOM];
        // How many would be left for each owner of a face, nobody behind all.
        private final int[] byOwner = new int[MOST_PEOPLE + 1];
        int size;

        int add(int face, int person, boolean isSo) {
            if (size >= ROOM) {
                return NONE;
            }
            faces[size] = face;
            people[size] = person;
            so[size] = isSo;
            size++;
            return size - 1;
        }

        /** Those (bits) of whom all that is known by k is so. */
        int leftBy(Parish parish, State state, int k) {
            int bits = 0;
            for (int person = 0; person < parish.people; person++) {
                if (state.isAlive(person) && fits(parish, state, k, person)) {
                    bits |= 1 << person;
                }
            }
            return bits;
        }

        private boolean fits(Parish parish, State state, int k, int person) {
            for (int i = 0; i < k && i < size; i++) {
                boolean theirs = parish.ownerWithout(state, person, faces[i]) == people[i];
                if (theirs != so[i]) {
                    return false;
                }
            }
            return true;
        }

        /** How many of them are left at worst, once it is told whose a face is. */
        int worstLeft(Parish parish, State state, int left, int face) {
            for (int i = 0; i < byOwner.length; i++) {
                byOwner[i] = 0;
            }
            int worst = 0;
            for (int person = 0; person < parish.people; person++) {
                if ((left >> person & 1) == 1) {
                    int owner = parish.ownerWithout(state, person, face);
                    int row = owner >= 0 ? owner : MOST_PEOPLE;
                    byOwner[row]++;
                    worst = Math.max(worst, byOwner[row]);
                }
            }
            return worst;
        }
    }
}
