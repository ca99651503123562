import java.util.Arrays;
import java.util.NoSuchElementException;

/** Things sealed under drops of wax, who knows them, and what heat does to them. */
public final class WaxReign {
    public static final int NONE = -1;
    public static final int HIDDEN = -1000000;

    private static final int NO_SUCH_SORT = -2;
    private static final int SORT_KINGDOM = 0;
    private static final int SORT_LAW = 1;
    private static final int SORT_REIGN = 2;
    private static final int MOST_REIGNS = 4;
    private static final int MOST_KNIVES = 9;
    private static final int MOST_YEARS = 60;
    private static final int MOST_AHEAD = 24;
    private static final int MOST_ODDS = 12;

    private final Tape tape;
    private final KingdomReader kingdomReader;
    private final LawReader lawReader;
    private final ReignReader reignReader;
    private final Laws laws;
    private final int[][] reigns;
    private int reignsTold;
    private int knivesNow;
    private final Realm realm;
    private final Chronicle chronicle;
    private final Forecast forecast;
    private final Notes notes;
    private final Duel duel;
    private final Draws draws;

    public WaxReign() {
        tape = new Tape();
        kingdomReader = new KingdomReader(tape);
        lawReader = new LawReader(tape);
        reignReader = new ReignReader(tape);
        laws = new Laws();
        reigns = new int[MOST_REIGNS][];
        realm = new Realm(laws);
        chronicle = new Chronicle();
        forecast = new Forecast(realm);
        notes = new Notes(realm);
        duel = new Duel(realm);
        draws = new Draws();
    }

    public int feed(int a, int b, int c, int d, int e) {
        int more = Tape.signsIn(a) + Tape.signsIn(b) + Tape.signsIn(c) + Tape.signsIn(d) + Tape.signsIn(e);
        if (tape.length + more > Tape.MOST) {
            return NONE;
        }
        tape.adds(a);
        tape.adds(b);
        tape.adds(c);
        tape.adds(d);
        tape.adds(e);
        return tape.length;
    }

    public boolean end(int n) {
        if (n < 0 || n > tape.length) {
            return false;
        }
        tape.length = n;
        return true;
    }

    public int fault(int sort) {
        boolean good;
        switch (sort) {
            case SORT_KINGDOM:
                good = kingdomReader.reads();
                break;
            case SORT_LAW:
                good = lawReader.reads();
                break;
            case SORT_REIGN:
                good = reignReader.reads();
                break;
            default:
                return NO_SUCH_SORT;
        }
        return good ? NONE : tape.at;
    }

    public int text(int sort) {
        switch (sort) {
            case SORT_KINGDOM:
                if (!kingdomReader.reads()) {
                    return NONE;
                }
                beginsKingdom();
                tape.length = 0;
                return realm.things;
            case SORT_LAW:
                if (laws.told >= Laws.MOST || !lawReader.reads()) {
                    return NONE;
                }
                tape.length = 0;
                return laws.adds(lawReader);
            case SORT_REIGN:
                if (reignsTold >= MOST_REIGNS || !reignReader.reads()) {
                    return NONE;
                }
                tape.length = 0;
                reigns[reignsTold] = reignReader.copiesSteps();
                reignsTold++;
                return reignsTold - 1;
            default:
                return NONE;
        }
    }

    private void beginsKingdom() {
        realm.takes(kingdomReader);
        chronicle.forgets();
        notes.told = 0;
    }

    public int rule(int what) {
        if (!realm.isTold()) {
            return NONE;
        }
        switch (what) {
            case 0:
                return realm.now[Realm.WAX];
            case 1:
                return realm.now[Realm.HEAT];
            case 2:
                return realm.bees;
            default:
                return NONE;
        }
    }

    public int thing(int thing, int what) throws NoSuchElementException {
        if (!realm.isThing(thing)) {
            throw new NoSuchElementException("no such thing");
        }
        switch (what) {
            case 0:
                return realm.owner[thing];
            case 1:
                return realm.hard[thing];
            case 2:
                return realm.deep[thing];
            case 3:
                return realm.now[Realm.SUN + thing];
            case 4:
                return realm.now[Realm.DROP + thing];
            case 5:
                return realm.now[Realm.KNOWS + thing];
            case 6:
                return realm.holdsNow(thing);
            default:
                throw new NoSuchElementException("no such what");
        }
    }

    public int ring(int ring, int what) {
        if (!realm.isRing(ring)) {
            return NONE;
        }
        switch (what) {
            case 0:
                return realm.now[Realm.SKILL + ring];
            case 1:
                return realm.now[Realm.SCARS + ring];
            default:
                return NONE;
        }
    }

    public boolean law(int law) {
        if (law < NONE || law >= laws.told) {
            return false;
        }
        laws.inForce = law;
        return true;
    }

    public boolean knives(int v) {
        if (v < 0 || v > MOST_KNIVES || v == knivesNow) {
            return false;
        }
        knivesNow = v;
        return true;
    }

    public int month() {
        int melted = does(Realm.ACT_MONTH, 0, 0);
        return melted == NONE ? NONE : Integer.bitCount(melted);
    }

    public int seal(int thing, int n) {
        return does(Realm.ACT_SEAL, thing, n);
    }

    public int open(int thing) {
        return does(Realm.ACT_OPEN, thing, 0);
    }

    public int pry(int thing, int ring) {
        return does(Realm.ACT_PRY, thing, ring);
    }

    public int carry(int thing, int sun) {
        return does(Realm.ACT_CARRY, thing, sun);
    }

    public int heat(int v) {
        return does(Realm.ACT_HEAT, v, 0);
    }

    private int does(int act, int first, int second) {
        chronicle.begins(realm);
        int answer = act == Realm.ACT_MONTH ? goesBy() : realm.acts(act, first, second);
        if (answer != NONE) {
            chronicle.keepsAct();
        }
        return answer;
    }

    /** A MONTH that stands in the LOG: RUN, which is apart, passes by this. */
    private int goesBy() {
        int warmth = realm.warmthNow();
        int melted = realm.passes();
        if (melted != NONE) {
            chronicle.writes(realm, warmth, melted);
        }
        return melted;
    }

    public int years(int n, long seed) {
        if (!realm.isTold() || n < 1 || n > MOST_YEARS || realm.now[Realm.TIME] + n > Realm.LAST_TIME) {
            return NONE;
        }
        draws.drawn = seed;
        for (int gone = 0; gone < n; gone++) {
            chronicle.begins(realm);
            drawsAhead();
            goesBy();
            chronicle.keepsAct();
        }
        return realm.now[Realm.TIME];
    }

    private void drawsAhead() {
        realm.warms(draws.next(10) >= 5 ? 1 : -1);
        if (draws.next(10) < knivesNow) {
            int thing = draws.next(realm.things);
            int ring = draws.next(realm.rings);
            realm.pries(thing, ring);
        }
    }

    public int undo() {
        return chronicle.takesBack(realm);
    }

    public int log(int i, int what) {
        if (i < 0 || i >= chronicle.lengthFor(realm) || what < 0 || what >= Chronicle.ENTRY) {
            return NONE;
        }
        return chronicle.entry(realm.now[Realm.TIME] - 1 - i, what);
    }

    public int step(int reign, int i, int what) {
        if (!isReign(reign) || i < 0 || i >= stepsOf(reign) || what < 0 || what >= ReignReader.STEP) {
            return HIDDEN;
        }
        return part(reign, i, what);
    }

    public int run(int reign, int what) {
        if (!isReign(reign) || !realm.isTold() || what < 0 || what > 1) {
            return HIDDEN;
        }
        realm.setsAside();
        int shame = realm.now[Realm.SHAME];
        int steps = stepsOf(reign);
        int done = 0;
        while (done < steps && realm.acts(part(reign, done, 0), part(reign, done, 1), part(reign, done, 2)) != NONE) {
            done++;
        }
        int came = realm.now[Realm.SHAME] - shame;
        realm.bringsBack();
        if (what == 1) {
            return came;
        }
        return done == steps ? NONE : done;
    }

    public int perform(int reign) {
        if (!isReign(reign) || !realm.isTold()) {
            return NONE;
        }
        int steps = stepsOf(reign);
        int done = 0;
        while (done < steps && does(part(reign, done, 0), part(reign, done, 1), part(reign, done, 2)) != NONE) {
            done++;
        }
        return done;
    }

    private boolean isReign(int reign) {
        return reign >= 0 && reign < reignsTold && reigns[reign] != null;
    }

    private int stepsOf(int reign) {
        return reigns[reign].length / ReignReader.STEP;
    }

    private int part(int reign, int step, int what) {
        return reigns[reign][step * ReignReader.STEP + what];
    }

    public int warmth(int n) {
        if (!realm.isTold() || n < 0 || n > MOST_YEARS) {
            return NONE;
        }
        return realm.warmthAt(realm.now[Realm.TIME] + n);
    }

    public int lasts(int thing) {
        return realm.isThing(thing) ? forecast.monthsTillMelt(thing) : NONE;
    }

    public int least(int things, int n, int thing) {
        if (things < 1 || things >= 1 << realm.things || isNotAhead(n)) {
            return NONE;
        }
        if (thing != NONE && (!realm.isThing(thing) || (things >> thing & 1) == 0)) {
            return NONE;
        }
        return forecast.waxFor(things, n, thing);
    }

    public int pack(int n, int what) {
        return isAskedAhead(n, what) ? forecast.bestKept(n, what) : NONE;
    }

    public int order(int what) {
        return isAskedAhead(1, what) ? forecast.melting(MOST_AHEAD, what) : NONE;
    }

    public int dealt(int n, int what) {
        return isAskedAhead(n, what) ? forecast.dealing(n, what) : NONE;
    }

    private static boolean isNotAhead(int n) {
        return n < 1 || n > MOST_AHEAD;
    }

    private boolean isAskedAhead(int n, int what) {
        return realm.isTold() && !isNotAhead(n) && what >= 0 && what <= 1;
    }

    public int noted(int ring, int thing, boolean knows) {
        if (!realm.isRing(ring) || !realm.isThing(thing) || notes.told >= Notes.MOST) {
            return NONE;
        }
        return notes.adds(ring, thing, knows);
    }

    public int who(int i) {
        return realm.isTold() ? notes.fitting(i) : NONE;
    }

    public int ask() {
        return realm.isTold() ? notes.bestQuestion() : NONE;
    }

    public int game(int one, int other, int thing, int x, int y, int what) {
        if (!duel.canBe(one, other, thing) || isNoChoice(x) || isNoChoice(y) || isNoChoice(what)) {
            return HIDDEN;
        }
        return what == 0 ? duel.firstHas(one, thing, x, y) : duel.secondHas(one, other, thing, x, y);
    }

    private static boolean isNoChoice(int v) {
        return v < 0 || v > 1;
    }

    public int rests(int one, int other, int thing, int i) {
        return duel.canBe(one, other, thing) ? duel.resting(one, other, thing, i) : NONE;
    }

    public int odds(int thing, int n, int chance) {
        if (!realm.isThing(thing) || n < 0 || n > MOST_ODDS || chance < 0 || chance > 100) {
            return NONE;
        }
        return forecast.partsThatHold(thing, n, chance);
    }

    public int all(int what) {
        if (!realm.isTold()) {
            return NONE;
        }
        switch (what) {
            case 0:
            case 1:
            case 2:
                return realm.foremostThing(what);
            case 3:
                return realm.foremostRing(Realm.SKILL);
            case 4:
                return realm.foremostRing(Realm.SCARS);
            case 5:
                return realm.sealedOnes();
            case 6:
                return realm.secretOnes();
            case 7:
                return realm.waxOnAll();
            case 8:
                return realm.now[Realm.FORGED];
            case 9:
                return (Realm.YEAR - realm.now[Realm.TIME] % Realm.YEAR) % Realm.YEAR;
            default:
                return NONE;
        }
    }

    public int known(int ring) {
        return realm.isRing(ring) ? realm.knownTo(ring) : NONE;
    }

    public int spare(int thing) {
        if (!realm.isSealed(thing)) {
            return HIDDEN;
        }
        return realm.holdsNow(thing) - realm.warmthNow();
    }

    public int openers(int thing) {
        return realm.isSealed(thing) ? realm.skilledFor(thing) : NONE;
    }

    public int tells(int ring) {
        return realm.isRing(ring) ? realm.depthKnownOfOthers(ring) : NONE;
    }

    public int harden(int thing, int n) {
        return !realm.isSealed(thing) || isNotAhead(n) ? NONE : forecast.harderBy(thing, n);
    }

    public int image() {
        if (!realm.isTold()) {
            return NONE;
        }
        chronicle.draws(realm);
        return realm.now[Realm.TIME];
    }

    public int back() {
        if (!chronicle.drawn) {
            return NONE;
        }
        chronicle.restores(realm);
        return realm.now[Realm.TIME];
    }

    public int count(int what) {
        switch (what) {
            case 0:
                return realm.things;
            case 1:
                return realm.rings;
            case 2:
                return laws.told;
            case 3:
                return reignsTold;
            case 4:
                return tape.length;
            case 5:
                return laws.inForce;
            case 6:
                return realm.now[Realm.TIME];
            case 7:
                return realm.now[Realm.SHAME];
            case 8:
                return knivesNow;
            case 9:
                return notes.told;
            case 10:
                return chronicle.lengthFor(realm);
            case 11:
                return chronicle.acts;
            default:
                return HIDDEN;
        }
    }

    /** The bytes that were fed, and the place up to which a reader has read them: behind a FAULT it is that. */
    private static final class Tape {
        static final int MOST = 240;
        static final int ENDED = -1;

        private final int[] bytes = new int[MOST];
        int length;
        int at;

        static int signsIn(int word) {
            int signs = 0;
            for (int shift = 24; shift >= 0; shift -= 8) {
                if ((word >>> shift & 255) != 0) {
                    signs++;
                }
            }
            return signs;
        }

        void adds(int word) {
            for (int shift = 24; shift >= 0; shift -= 8) {
                int sign = word >>> shift & 255;
                if (sign != 0 && length < MOST) {
                    bytes[length] = sign;
                    length++;
                }
            }
        }

        int sign() {
            while (at < length) {
                if (bytes[at] != ' ') {
                    return bytes[at];
                }
                at++;
            }
            return ENDED;
        }

        boolean passes(int sign) {
            if (sign() != sign) {
                return false;
            }
            at++;
            return true;
        }

        int passesOneOf(String signs) {
            int sign = sign();
            if (sign == ENDED || signs.indexOf((char) sign) < 0) {
                return ENDED;
            }
            at++;
            return sign;
        }

        /** NONE: no such number. The first digit is where sign() stands. */
        int number(int digits, int most) {
            int value = 0;
            int told = 0;
            while (at < length && bytes[at] >= '0' && bytes[at] <= '9') {
                if (told == digits) {
                    return NONE;
                }
                value = value * 10 + bytes[at] - '0';
                told++;
                at++;
            }
            if (told == 0) {
                return NONE;
            }
            if (value > most) {
                at--;
                return NONE;
            }
            return value;
        }
    }

    /** Reads a TAPE as a KINGDOM; what it tells stays here until the next reading. */
    private static final class KingdomReader {
        static final int RULES = 0;
        static final int THING = 1;
        static final int RING = 2;

        private static final String KINDS = "str";
        private static final int[] MOST_OF_KIND = {1, 7, 5};
        private static final int[] ITEMS_OF_KIND = {3, 5, 1};
        private static final int[] FIRST_ROW = {0, 3, 38};
        private static final int ROWS = 43;
        private static final String RULE_LETTERS = "whb";
        private static final String THING_LETTERS = "ohdsw";
        private static final String RING_LETTERS = "k";
        private static final int[] FIRST_ITEM = {0, 3, 8};
        private static final int[] MOST_OF_ITEM = {99, 40, 9, 4, 40, 9, 9, 9, 9};
        private static final int[] WITHOUT_ITEM = {20, 10, 2, 0, 15, 3, 2, 1, 3};

        private final Tape tape;
        private final int[] rows = new int[ROWS];
        private final int[] clauses = new int[3];

        KingdomReader(Tape tape) {
            this.tape = tape;
        }

        int clausesOf(int kind) {
            return clauses[kind];
        }

        int item(int kind, int clause, int item) {
            return rows[FIRST_ROW[kind] + clause * ITEMS_OF_KIND[kind] + item];
        }

        boolean reads() {
            tape.at = 0;
            Arrays.fill(clauses, 0);
            setsWhatIsWithout(RULES);
            for (int told = 0; told < Tape.MOST; told++) {
                if (!readsClause()) {
                    return false;
                }
                if (tape.sign() == Tape.ENDED) {
                    return isWhole();
                }
                if (!tape.passes(';')) {
                    return false;
                }
            }
            return false;
        }

        private boolean isWhole() {
            if (clauses[THING] == 0 || clauses[RING] == 0) {
                return false;
            }
            for (int thing = 0; thing < clauses[THING]; thing++) {
                if (item(THING, thing, 0) >= clauses[RING]) {
                    return false;
                }
            }
            return true;
        }

        private boolean readsClause() {
            int sign = tape.sign();
            int kind = sign == Tape.ENDED ? NONE : KINDS.indexOf((char) sign);
            if (kind < 0 || clauses[kind] >= MOST_OF_KIND[kind]) {
                return false;
            }
            tape.at++;
            setsWhatIsWithout(kind);
            int met = 0;
            for (int told = 0; told <= ITEMS_OF_KIND[kind]; told++) {
                sign = tape.sign();
                if (sign == Tape.ENDED || sign == ';') {
                    clauses[kind]++;
                    return true;
                }
                int item = lettersOf(kind).indexOf((char) sign);
                if (item < 0 || (met >> item & 1) != 0) {
                    return false;
                }
                tape.at++;
                met |= 1 << item;
                if (!readsNumber(kind, item)) {
                    return false;
                }
            }
            return false;
        }

        private boolean readsNumber(int kind, int item) {
            // Blanks may stand ahead of a number, though not within it.
            tape.sign();
            int value = tape.number(2, MOST_OF_ITEM[FIRST_ITEM[kind] + item]);
            if (value == NONE) {
                return false;
            }
            rows[FIRST_ROW[kind] + clauses[kind] * ITEMS_OF_KIND[kind] + item] = value;
            return true;
        }

        private void setsWhatIsWithout(int kind) {
            int row = FIRST_ROW[kind] + clauses[kind] * ITEMS_OF_KIND[kind];
            System.arraycopy(WITHOUT_ITEM, FIRST_ITEM[kind], rows, row, ITEMS_OF_KIND[kind]);
        }

        private static String lettersOf(int kind) {
            return kind == RULES ? RULE_LETTERS : kind == THING ? THING_LETTERS : RING_LETTERS;
        }
    }

    /**
     * Reads a TAPE as a LAW into code: numbers, letters and signs behind what they join. A sign of the TAPE gives one
     * code at most, so that the code is never longer than the TAPE.
     */
    private static final class LawReader {
        static final int LETTER = 10000;
        static final int SIGN = 20000;
        static final int ELSE_TO = 30000;

        private static final String LETTERS = "hwsmdk";
        private static final int MOST_WITHIN = 6;

        private final Tape tape;
        private final int[] code = new int[Tape.MOST];
        private int length;

        LawReader(Tape tape) {
            this.tape = tape;
        }

        int[] copiesCode() {
            return Arrays.copyOf(code, length);
        }

        boolean reads() {
            tape.at = 0;
            length = 0;
            for (int told = 0; told < Tape.MOST; told++) {
                if (!readsClause()) {
                    return false;
                }
                if (tape.sign() == Tape.ENDED) {
                    return true;
                }
                if (!tape.passes(';')) {
                    return false;
                }
            }
            return false;
        }

        private boolean readsClause() {
            if (!tape.passes('y') || !tape.passes(':')) {
                return false;
            }
            int sign = tape.sign();
            boolean conditioned = sign == '!' || sign == '(';
            if (!conditioned) {
                if (!readsSum(0)) {
                    return false;
                }
                if (!isComparison(tape.sign())) {
                    emits(SIGN + ';');
                    return true;
                }
            }
            if (!readsCondition(0, !conditioned) || !tape.passes('?')) {
                return false;
            }
            int hole = length;
            emits(ELSE_TO);
            if (!readsSum(0)) {
                return false;
            }
            emits(SIGN + ';');
            if (hole < code.length) {
                code[hole] = ELSE_TO + length;
            }
            return true;
        }

        /** begun: the first SUM of the first UNIT has been read, since it might have been the CLAUSE's own. */
        private boolean readsCondition(int within, boolean begun) {
            boolean and = false;
            boolean or = false;
            for (int told = 0; told < Tape.MOST; told++) {
                if (!readsUnit(within, begun && told == 0)) {
                    return false;
                }
                if (and) {
                    emits(SIGN + '&');
                }
                and = tape.passes('&');
                if (!and) {
                    if (or) {
                        emits(SIGN + '|');
                    }
                    or = tape.passes('|');
                    if (!or) {
                        return true;
                    }
                }
            }
            return false;
        }

        private boolean readsUnit(int within, boolean begun) {
            int sign = tape.sign();
            if (!begun && (sign == '!' || sign == '(')) {
                if (within >= MOST_WITHIN) {
                    return false;
                }
                tape.at++;
                if (sign == '(') {
                    return readsCondition(within + 1, false) && tape.passes(')');
                }
                if (!readsUnit(within + 1, false)) {
                    return false;
                }
                emits(SIGN + '!');
                return true;
            }
            if (!begun && !readsSum(within)) {
                return false;
            }
            int comparison = tape.sign();
            if (!isComparison(comparison)) {
                return false;
            }
            tape.at++;
            if (!readsSum(within)) {
                return false;
            }
            emits(SIGN + comparison);
            return true;
        }

        private boolean readsSum(int within) {
            int times = Tape.ENDED;
            int plus = Tape.ENDED;
            for (int told = 0; told < Tape.MOST; told++) {
                if (!readsAtom(within)) {
                    return false;
                }
                if (times != Tape.ENDED) {
                    emits(SIGN + times);
                }
                times = tape.passesOneOf("*/");
                if (times == Tape.ENDED) {
                    if (plus != Tape.ENDED) {
                        emits(SIGN + plus);
                    }
                    plus = tape.passesOneOf("+-");
                    if (plus == Tape.ENDED) {
                        return true;
                    }
                }
            }
            return false;
        }

        private boolean readsAtom(int within) {
            int sign = tape.sign();
            if (sign == Tape.ENDED) {
                return false;
            }
            if (sign == '[') {
                if (within >= MOST_WITHIN) {
                    return false;
                }
                tape.at++;
                if (!readsSum(within + 1) || tape.sign() != ']') {
                    return false;
                }
                tape.at++;
                return true;
            }
            int letter = LETTERS.indexOf((char) sign);
            if (letter >= 0) {
                tape.at++;
                emits(LETTER + letter);
                return true;
            }
            int value = tape.number(4, 9999);
            if (value == NONE) {
                return false;
            }
            emits(value);
            return true;
        }

        private void emits(int sign) {
            if (length < code.length) {
                code[length] = sign;
                length++;
            }
        }

        private static boolean isComparison(int sign) {
            return sign == '=' || sign == '<' || sign == '>';
        }
    }

    /** Reads a TAPE as a REIGN: of each STEP what it is and two digits, NONE for those it has not. */
    private static final class ReignReader {
        static final int STEP = 3;

        private static final int MOST = 16;
        private static final String KINDS = "mspo";
        private static final int[] DIGITS_OF_KIND = {0, 2, 2, 1};

        private final Tape tape;
        private final int[] steps = new int[MOST * STEP];
        private int told;

        ReignReader(Tape tape) {
            this.tape = tape;
        }

        int[] copiesSteps() {
            return Arrays.copyOf(steps, told * STEP);
        }

        boolean reads() {
            tape.at = 0;
            for (int step = 0; step < MOST; step++) {
                if (!readsStep(step * STEP)) {
                    return false;
                }
                told = step + 1;
                if (tape.sign() == Tape.ENDED) {
                    return true;
                }
                if (told == MOST || !tape.passes(';')) {
                    return false;
                }
            }
            return false;
        }

        private boolean readsStep(int row) {
            int sign = tape.sign();
            int kind = sign == Tape.ENDED ? NONE : KINDS.indexOf((char) sign);
            if (kind < 0) {
                return false;
            }
            tape.at++;
            steps[row] = kind;
            steps[row + 1] = NONE;
            steps[row + 2] = NONE;
            for (int digit = 1; digit <= DIGITS_OF_KIND[kind]; digit++) {
                sign = tape.sign();
                if (sign < '0' || sign > '9') {
                    return false;
                }
                tape.at++;
                steps[row + digit] = sign - '0';
            }
            return true;
        }
    }

    /** The LAWS as code, the one that holds, and the letters by which it is weighed. */
    private static final class Laws {
        static final int MOST = 4;
        static final int HARD = 0;
        static final int DROP = 1;
        static final int SUN = 2;
        static final int MONTH = 3;
        static final int DEEP = 4;
        static final int SKILL = 5;

        private static final int BOUND = 1000000;

        private final int[][] codes = new int[MOST][];
        private final int[] stack = new int[Tape.MOST];
        final int[] letters = new int[6];
        int told;
        int inForce = NONE;

        int adds(LawReader reader) {
            if (told >= MOST) {
                return NONE;
            }
            codes[told] = reader.copiesCode();
            told++;
            return told - 1;
        }

        /** By the letters as they are set. */
        int worth() {
            if (inForce < 0 || inForce >= told || codes[inForce] == null) {
                return letters[HARD] + 2 * letters[DROP] - letters[SUN];
            }
            int[] code = codes[inForce];
            int top = 0;
            for (int i = 0; i < code.length; i++) {
                int sign = code[i];
                if (sign < LawReader.SIGN) {
                    if (top < stack.length) {
                        stack[top] = sign < LawReader.LETTER ? sign : letterOf(sign);
                        top++;
                    }
                } else if (top == 0) {
                    return 0;
                } else if (sign >= LawReader.ELSE_TO) {
                    top--;
                    if (stack[top] == 0) {
                        // A CLAUSE's code begins behind the one it follows, so that this only goes on.
                        i = Math.max(i, sign - LawReader.ELSE_TO - 1);
                    }
                } else if (sign == LawReader.SIGN + ';') {
                    return stack[top - 1];
                } else if (sign == LawReader.SIGN + '!') {
                    stack[top - 1] = 1 - stack[top - 1];
                } else if (top >= 2) {
                    top--;
                    stack[top - 1] = joined(sign - LawReader.SIGN, stack[top - 1], stack[top]);
                }
            }
            return 0;
        }

        private int letterOf(int sign) {
            int letter = sign - LawReader.LETTER;
            return letter >= 0 && letter < letters.length ? letters[letter] : 0;
        }

        private static int joined(int sign, int left, int right) {
            switch (sign) {
                case '=':
                    return left == right ? 1 : 0;
                case '<':
                    return left < right ? 1 : 0;
                case '>':
                    return left > right ? 1 : 0;
                case '&':
                    return left & right;
                case '|':
                    return left | right;
                case '/':
                    return right == 0 ? 0 : left / right;
                default:
                    // Products of two numbers within bounds do not fit an int.
                    long value = sign == '+' ? (long) left + right : sign == '-' ? (long) left - right : (long) left * right;
                    return value > BOUND ? BOUND : value < -BOUND ? -BOUND : (int) value;
            }
        }
    }

    /** The KINGDOM as it was told and, in one row that is quickly kept and brought back, all that changes in it. */
    private static final class Realm {
        static final int YEAR = 12;
        static final int LAST_TIME = 9999;
        static final int MOST_THINGS = 7;
        static final int MOST_RINGS = 5;
        static final int MOST_DROP = 9;

        static final int WAX = 0;
        static final int HEAT = 1;
        static final int SHAME = 2;
        static final int FORGED = 3;
        static final int TIME = 4;
        static final int SUN = 5;
        static final int DROP = SUN + MOST_THINGS;
        static final int KNOWS = DROP + MOST_THINGS;
        static final int SKILL = KNOWS + MOST_THINGS;
        static final int SCARS = SKILL + MOST_RINGS;
        static final int ROW = SCARS + MOST_RINGS;

        static final int ACT_MONTH = 0;
        static final int ACT_SEAL = 1;
        static final int ACT_PRY = 2;
        static final int ACT_OPEN = 3;
        static final int ACT_CARRY = 4;
        static final int ACT_HEAT = 5;

        private static final int MOST_WAX = 999;
        private static final int MOST_HEAT = 40;
        private static final int MOST_SUN = 9;
        private static final int MOST_SCARS = 9;
        private static final int MOST_HOLDS = 99;

        private final Laws laws;
        final int[] now = new int[ROW];
        private final int[] aside = new int[ROW];
        final int[] owner = new int[MOST_THINGS];
        final int[] hard = new int[MOST_THINGS];
        final int[] deep = new int[MOST_THINGS];
        int things;
        int rings;
        int bees;

        Realm(Laws laws) {
            this.laws = laws;
        }

        void takes(KingdomReader reader) {
            Arrays.fill(now, 0);
            things = reader.clausesOf(KingdomReader.THING);
            rings = reader.clausesOf(KingdomReader.RING);
            now[WAX] = reader.item(KingdomReader.RULES, 0, 0);
            now[HEAT] = reader.item(KingdomReader.RULES, 0, 1);
            bees = reader.item(KingdomReader.RULES, 0, 2);
            for (int thing = 0; thing < things; thing++) {
                owner[thing] = reader.item(KingdomReader.THING, thing, 0);
                hard[thing] = reader.item(KingdomReader.THING, thing, 1);
                deep[thing] = reader.item(KingdomReader.THING, thing, 2);
                now[SUN + thing] = reader.item(KingdomReader.THING, thing, 3);
                now[DROP + thing] = reader.item(KingdomReader.THING, thing, 4);
                now[KNOWS + thing] = 1 << owner[thing];
            }
            for (int ring = 0; ring < rings; ring++) {
                now[SKILL + ring] = reader.item(KingdomReader.RING, ring, 0);
            }
        }

        boolean isTold() {
            return things > 0;
        }

        boolean isThing(int thing) {
            return thing >= 0 && thing < things;
        }

        boolean isRing(int ring) {
            return ring >= 0 && ring < rings;
        }

        boolean isSealed(int thing) {
            return isThing(thing) && now[DROP + thing] > 0;
        }

        boolean knowsIt(int ring, int thing) {
            return (now[KNOWS + thing] >> ring & 1) != 0;
        }

        void setsAside() {
            System.arraycopy(now, 0, aside, 0, ROW);
        }

        void bringsBack() {
            System.arraycopy(aside, 0, now, 0, ROW);
        }

        int warmthNow() {
            return warmthAt(now[TIME]);
        }

        int warmthAt(int time) {
            int month = time % YEAR;
            return now[HEAT] + 2 * Math.min(month, YEAR - month);
        }

        int holdsNow(int thing) {
            return holdsAt(thing, hard[thing], now[DROP + thing], now[SUN + thing], now[TIME]);
        }

        int holdsAt(int thing, int hardness, int drop, int sun, int time) {
            laws.letters[Laws.HARD] = hardness;
            laws.letters[Laws.DROP] = drop;
            laws.letters[Laws.SUN] = sun;
            laws.letters[Laws.MONTH] = time % YEAR;
            laws.letters[Laws.DEEP] = deep[thing];
            laws.letters[Laws.SKILL] = now[SKILL + owner[thing]];
            return Math.max(0, Math.min(MOST_HOLDS, laws.worth()));
        }

        /** In how many MONTHS such a drop would MELT; 0: not in so many. */
        int meltsIn(int thing, int hardness, int drop, int sun, int months) {
            // What a drop HOLDS and the WARMTH go by the MONTH alone: behind a year all comes again.
            int span = Math.min(months, YEAR);
            for (int gone = 0; gone < span; gone++) {
                int time = now[TIME] + gone;
                if (warmthAt(time) > holdsAt(thing, hardness, drop, sun, time)) {
                    return gone + 1;
                }
            }
            return 0;
        }

        /** NONE: it can't be, and nothing has changed. */
        int acts(int act, int first, int second) {
            switch (act) {
                case ACT_MONTH:
                    return passes();
                case ACT_SEAL:
                    return setsWax(first, second);
                case ACT_PRY:
                    return pries(first, second);
                case ACT_OPEN:
                    return opensOwn(first);
                case ACT_CARRY:
                    return carries(first, second);
                case ACT_HEAT:
                    return setsHeat(first);
                default:
                    return NONE;
            }
        }

        /** Which MELTED, as bits. */
        int passes() {
            if (!isTold() || now[TIME] >= LAST_TIME) {
                return NONE;
            }
            int warmth = warmthNow();
            int everyone = (1 << rings) - 1;
            int melted = 0;
            for (int thing = 0; thing < things; thing++) {
                if (isSealed(thing) && warmth > holdsNow(thing)) {
                    melted |= 1 << thing;
                    now[DROP + thing] = 0;
                    if (now[KNOWS + thing] != everyone) {
                        now[KNOWS + thing] = everyone;
                        now[SHAME] += deep[thing];
                    }
                }
            }
            now[WAX] = Math.min(MOST_WAX, now[WAX] + bees);
            now[TIME]++;
            return melted;
        }

        private int setsWax(int thing, int n) {
            if (!isThing(thing) || n < 1 || n > MOST_DROP - now[DROP + thing] || n > now[WAX]) {
                return NONE;
            }
            now[WAX] -= n;
            now[DROP + thing] += n;
            return now[DROP + thing];
        }

        private int opensOwn(int thing) {
            if (!isSealed(thing)) {
                return NONE;
            }
            now[WAX] = Math.min(MOST_WAX, now[WAX] + now[DROP + thing]);
            now[DROP + thing] = 0;
            return now[WAX];
        }

        int pries(int thing, int ring) {
            if (!isSealed(thing) || !isRing(ring) || owner[thing] == ring) {
                return NONE;
            }
            now[KNOWS + thing] |= 1 << ring;
            if (isSkilledFor(ring, thing)) {
                now[FORGED]++;
                return 1;
            }
            now[DROP + thing] = 0;
            now[SCARS + ring] = Math.min(MOST_SCARS, now[SCARS + ring] + 1);
            now[SKILL + ring] = Math.max(0, now[SKILL + ring] - 1);
            return 0;
        }

        boolean isSkilledFor(int ring, int thing) {
            return now[SKILL + ring] >= 2 * now[DROP + thing];
        }

        private int carries(int thing, int sun) {
            if (!isThing(thing) || sun < 0 || sun > MOST_SUN || sun == now[SUN + thing]) {
                return NONE;
            }
            int before = now[SUN + thing];
            now[SUN + thing] = sun;
            return before;
        }

        private int setsHeat(int heat) {
            if (!isTold() || heat < 0 || heat > MOST_HEAT || heat == now[HEAT]) {
                return NONE;
            }
            int before = now[HEAT];
            now[HEAT] = heat;
            return before;
        }

        void warms(int by) {
            now[HEAT] = Math.max(0, Math.min(MOST_HEAT, now[HEAT] + by));
        }

        /** SOFTEST (0), DEEPEST (1) or HOTTEST (2). */
        int foremostThing(int by) {
            int foremost = NONE;
            int most = 0;
            for (int thing = 0; thing < things; thing++) {
                if (isSealed(thing)) {
                    int rank = by == 0 ? -holdsNow(thing) : by == 1 ? deep[thing] : now[SUN + thing];
                    if (foremost == NONE || rank > most) {
                        foremost = thing;
                        most = rank;
                    }
                }
            }
            return foremost;
        }

        /** The RING with the most of what stands in the row from there on. */
        int foremostRing(int from) {
            int foremost = 0;
            for (int ring = 1; ring < rings; ring++) {
                if (now[from + ring] > now[from + foremost]) {
                    foremost = ring;
                }
            }
            return foremost;
        }

        int sealedOnes() {
            int bits = 0;
            for (int thing = 0; thing < things; thing++) {
                if (isSealed(thing)) {
                    bits |= 1 << thing;
                }
            }
            return bits;
        }

        int secretOnes() {
            int bits = 0;
            for (int thing = 0; thing < things; thing++) {
                if (Integer.bitCount(now[KNOWS + thing]) == 1) {
                    bits |= 1 << thing;
                }
            }
            return bits;
        }

        int waxOnAll() {
            int wax = 0;
            for (int thing = 0; thing < things; thing++) {
                wax += now[DROP + thing];
            }
            return wax;
        }

        int knownTo(int ring) {
            int bits = 0;
            for (int thing = 0; thing < things; thing++) {
                if (knowsIt(ring, thing)) {
                    bits |= 1 << thing;
                }
            }
            return bits;
        }

        int skilledFor(int thing) {
            int bits = 0;
            for (int ring = 0; ring < rings; ring++) {
                if (ring != owner[thing] && isSkilledFor(ring, thing)) {
                    bits |= 1 << ring;
                }
            }
            return bits;
        }

        int depthKnownOfOthers(int ring) {
            int depth = 0;
            for (int thing = 0; thing < things; thing++) {
                if (owner[thing] != ring && knowsIt(ring, thing)) {
                    depth += deep[thing];
                }
            }
            return depth;
        }
    }

    /** The LOG, the ACTS that can be UNDONE, and the IMAGE. */
    private static final class Chronicle {
        static final int ENTRY = 3;

        private static final int MOST_LOGGED = 60;
        private static final int MOST_ACTS = 40;
        /** Longer than the LOG, by at least a MONTH for each ACT: UNDONE ones bring its oldest rows to light again. */
        private static final int SLOTS = 128;

        private final int[] entries = new int[SLOTS * ENTRY];
        private final int[] before = new int[Realm.ROW];
        private final int[] undoable = new int[MOST_ACTS * Realm.ROW];
        private int next;
        int acts;
        private final int[] imaged = new int[Realm.ROW];
        private final int[] imagedEntries = new int[SLOTS * ENTRY];
        boolean drawn;

        void forgets() {
            acts = 0;
            drawn = false;
        }

        /** Each MONTH that went by stands in the LOG, so that TIME tells how many there were. */
        int lengthFor(Realm realm) {
            return Math.min(MOST_LOGGED, realm.now[Realm.TIME]);
        }

        int entry(int time, int what) {
            return entries[slotOf(time) + what];
        }

        void writes(Realm realm, int warmth, int melted) {
            int slot = slotOf(realm.now[Realm.TIME] - 1);
            entries[slot] = warmth;
            entries[slot + 1] = melted;
            entries[slot + 2] = realm.now[Realm.SHAME];
        }

        private static int slotOf(int time) {
            return (time & SLOTS - 1) * ENTRY;
        }

        void begins(Realm realm) {
            System.arraycopy(realm.now, 0, before, 0, Realm.ROW);
        }

        void keepsAct() {
            System.arraycopy(before, 0, undoable, next * Realm.ROW, Realm.ROW);
            next = (next + 1) % MOST_ACTS;
            acts = Math.min(MOST_ACTS, acts + 1);
        }

        int takesBack(Realm realm) {
            if (acts == 0) {
                return NONE;
            }
            next = (next + MOST_ACTS - 1) % MOST_ACTS;
            acts--;
            System.arraycopy(undoable, next * Realm.ROW, realm.now, 0, Realm.ROW);
            return acts;
        }

        void draws(Realm realm) {
            System.arraycopy(realm.now, 0, imaged, 0, Realm.ROW);
            System.arraycopy(entries, 0, imagedEntries, 0, entries.length);
            drawn = true;
        }

        void restores(Realm realm) {
            System.arraycopy(imaged, 0, realm.now, 0, Realm.ROW);
            System.arraycopy(imagedEntries, 0, entries, 0, entries.length);
            acts = 0;
        }
    }

    /** What would come of the KINGDOM as it is: nothing of it changes here. */
    private static final class Forecast {
        private static final int MOST_LASTS = 60;
        private static final int MOST_HARDER = 40;
        private static final int HOTTER_BY = 5;
        private static final long ALL_PARTS = 1000000000L;
        private static final int THINGS = Realm.MOST_THINGS;

        private final Realm realm;
        private final int[] needs = new int[THINGS];
        private final int[] suns = new int[THINGS];
        private final int[] prices = new int[THINGS * THINGS];
        private final int[] leastPrice = new int[1 << THINGS];

        Forecast(Realm realm) {
            this.realm = realm;
        }

        int monthsTillMelt(int thing) {
            if (!realm.isSealed(thing)) {
                return 0;
            }
            int months = meltsUnder(thing, 0, 0, MOST_LASTS);
            return months == 0 ? NONE : months;
        }

        private int meltsUnder(int thing, int harder, int moreWax, int months) {
            int drop = realm.now[Realm.DROP + thing] + moreWax;
            return realm.meltsIn(thing, realm.hard[thing] + harder, drop, realm.now[Realm.SUN + thing], months);
        }

        private int waxNeeded(int thing, int n) {
            if (!realm.isSealed(thing)) {
                return 0;
            }
            int room = Realm.MOST_DROP - realm.now[Realm.DROP + thing];
            for (int more = 0; more <= room; more++) {
                if (meltsUnder(thing, 0, more, n) == 0) {
                    return more;
                }
            }
            return NONE;
        }

        int waxFor(int set, int n, int asked) {
            int sum = 0;
            for (int thing = 0; thing < realm.things; thing++) {
                if ((set >> thing & 1) != 0) {
                    needs[thing] = waxNeeded(thing, n);
                    if (needs[thing] == NONE) {
                        return NONE;
                    }
                    sum += needs[thing];
                }
            }
            return realm.isThing(asked) ? needs[asked] : sum;
        }

        int bestKept(int n, int what) {
            int sealed = realm.sealedOnes();
            for (int thing = 0; thing < realm.things; thing++) {
                needs[thing] = waxNeeded(thing, n);
                if (needs[thing] == NONE) {
                    sealed &= ~(1 << thing);
                }
            }
            int best = 0;
            int most = 0;
            for (int set = 1; set < 1 << realm.things; set++) {
                if ((set & ~sealed) == 0) {
                    int depth = depthKept(set);
                    if (depth > most) {
                        best = set;
                        most = depth;
                    }
                }
            }
            return what == 0 ? best : most;
        }

        /** NONE: there is too little WAX for these. */
        private int depthKept(int set) {
            int wax = 0;
            int depth = 0;
            for (int thing = 0; thing < realm.things; thing++) {
                if ((set >> thing & 1) != 0) {
                    wax += needs[thing];
                    depth += realm.deep[thing];
                }
            }
            return wax > realm.now[Realm.WAX] ? NONE : depth;
        }

        int melting(int months, int what) {
            int many = 0;
            for (int thing = 0; thing < realm.things; thing++) {
                needs[thing] = realm.isSealed(thing) ? meltsUnder(thing, 0, 0, months) : 0;
                if (needs[thing] > 0) {
                    many++;
                }
            }
            if (what == 1) {
                return many;
            }
            if (many == 0) {
                return NONE;
            }
            int row = 0;
            for (int month = 1; month <= months; month++) {
                for (int thing = 0; thing < realm.things; thing++) {
                    if (needs[thing] == month) {
                        row = row * 10 + thing;
                    }
                }
            }
            return row;
        }

        int dealing(int n, int what) {
            sortsSuns();
            for (int thing = 0; thing < realm.things; thing++) {
                setsPrices(thing, n);
            }
            int everyone = (1 << realm.things) - 1;
            leastPrice[everyone] = 0;
            for (int dealt = everyone - 1; dealt >= 0; dealt--) {
                leastPrice[dealt] = priceBehind(dealt, nextInRow(dealt));
            }
            return what == 0 ? leastRow() : leastPrice[0];
        }

        private void sortsSuns() {
            for (int thing = 0; thing < realm.things; thing++) {
                int sun = realm.now[Realm.SUN + thing];
                int place = thing;
                while (place > 0 && suns[place - 1] > sun) {
                    suns[place] = suns[place - 1];
                    place--;
                }
                suns[place] = sun;
            }
        }

        private void setsPrices(int thing, int n) {
            boolean counts = realm.isSealed(thing) && realm.deep[thing] > 0;
            int drop = realm.now[Realm.DROP + thing];
            for (int place = 0; place < realm.things; place++) {
                boolean melts = counts && realm.meltsIn(thing, realm.hard[thing], drop, suns[place], n) > 0;
                prices[thing * THINGS + place] = melts ? realm.deep[thing] : 0;
            }
        }

        private int priceBehind(int dealt, int thing) {
            return prices[thing * THINGS + Integer.bitCount(dealt)] + leastPrice[dealt | 1 << thing];
        }

        /** Of those to whom no SUN is dealt yet the one by whom least MELTS (of several the lowest). */
        private int nextInRow(int dealt) {
            int next = NONE;
            for (int thing = 0; thing < realm.things; thing++) {
                boolean free = (dealt >> thing & 1) == 0;
                if (free && (next == NONE || priceBehind(dealt, thing) < priceBehind(dealt, next))) {
                    next = thing;
                }
            }
            return Math.max(0, next);
        }

        private int leastRow() {
            int row = 0;
            int dealt = 0;
            for (int place = 0; place < realm.things; place++) {
                int thing = nextInRow(dealt);
                row = row * 10 + thing;
                dealt |= 1 << thing;
            }
            return row;
        }

        int partsThatHold(int thing, int n, int chance) {
            if (!realm.isSealed(thing)) {
                return 0;
            }
            long left = ALL_PARTS;
            for (int gone = 0; gone < n; gone++) {
                int time = realm.now[Realm.TIME] + gone;
                int drop = realm.now[Realm.DROP + thing];
                int sun = realm.now[Realm.SUN + thing];
                int spare = realm.holdsAt(thing, realm.hard[thing], drop, sun, time) - realm.warmthAt(time);
                if (spare < 0) {
                    return 0;
                }
                if (spare < HOTTER_BY) {
                    left -= left * chance / 100;
                }
            }
            return (int) left;
        }

        int harderBy(int thing, int n) {
            for (int harder = 0; harder <= MOST_HARDER; harder++) {
                if (meltsUnder(thing, harder, 0, n) == 0) {
                    return harder;
                }
            }
            return NONE;
        }
    }

    /** What is NOTED, and who might KNOW what so that it all fits. */
    private static final class Notes {
        static final int MOST = 10;

        private static final int AS_NOW = 99;
        private static final int MOST_FITTING = Realm.MOST_THINGS * Realm.MOST_RINGS + 1;

        private final Realm realm;
        private final int[] ringOf = new int[MOST];
        private final int[] thingOf = new int[MOST];
        private final boolean[] knownBy = new boolean[MOST];
        int told;
        private final int[] fits = new int[MOST_FITTING];

        Notes(Realm realm) {
            this.realm = realm;
        }

        int adds(int ring, int thing, boolean knows) {
            if (told >= MOST) {
                return NONE;
            }
            ringOf[told] = ring;
            thingOf[told] = thing;
            knownBy[told] = knows;
            told++;
            return told;
        }

        int fitting(int i) {
            int found = findsFitting();
            if (i == NONE) {
                return found;
            }
            return i >= 0 && i < found ? fits[i] : NONE;
        }

        private int findsFitting() {
            int found = 0;
            for (int thing = 0; thing < realm.things; thing++) {
                for (int ring = 0; ring < realm.rings; ring++) {
                    int guess = 10 * thing + ring;
                    if (!realm.knowsIt(ring, thing) && allIsSo(guess) && found < MOST_FITTING) {
                        fits[found] = guess;
                        found++;
                    }
                }
            }
            if (allIsSo(AS_NOW) && found < MOST_FITTING) {
                fits[found] = AS_NOW;
                found++;
            }
            return found;
        }

        private boolean allIsSo(int guess) {
            for (int note = 0; note < told; note++) {
                if (wouldKnow(guess, ringOf[note], thingOf[note]) != knownBy[note]) {
                    return false;
                }
            }
            return true;
        }

        private boolean wouldKnow(int guess, int ring, int thing) {
            return guess == 10 * thing + ring || realm.knowsIt(ring, thing);
        }

        int bestQuestion() {
            int found = findsFitting();
            if (found == 0) {
                return NONE;
            }
            int best = NONE;
            int least = 0;
            for (int thing = 0; thing < realm.things; thing++) {
                for (int ring = 0; ring < realm.rings; ring++) {
                    int apart = apartBy(ring, thing, found);
                    if (best == NONE || apart < least) {
                        best = 10 * thing + ring;
                        least = apart;
                    }
                }
            }
            return best;
        }

        private int apartBy(int ring, int thing, int found) {
            int more = 0;
            for (int i = 0; i < found; i++) {
                more += wouldKnow(fits[i], ring, thing) ? 1 : -1;
            }
            return Math.abs(more);
        }
    }

    /** The GAME of two RINGS who might PRY a THING, the one ahead of the other. */
    private static final class Duel {
        private static final int COST_OF_SCAR = 3;

        private final Realm realm;

        Duel(Realm realm) {
            this.realm = realm;
        }

        boolean canBe(int one, int other, int thing) {
            return realm.isRing(one) && realm.isRing(other) && one != other && realm.isSealed(thing)
                && realm.owner[thing] != one && realm.owner[thing] != other;
        }

        int firstHas(int one, int thing, int x, int y) {
            return x == 0 ? 0 : gain(thing, y, !realm.isSkilledFor(one, thing));
        }

        int secondHas(int one, int other, int thing, int x, int y) {
            boolean leftOpen = x == 1 && !realm.isSkilledFor(one, thing);
            return y == 0 ? 0 : gain(thing, x, !leftOpen && !realm.isSkilledFor(other, thing));
        }

        private int gain(int thing, int shared, boolean scarred) {
            int depth = realm.deep[thing];
            return (shared == 1 ? depth / 2 : depth) - (scarred ? COST_OF_SCAR : 0);
        }

        int resting(int one, int other, int thing, int i) {
            int found = 0;
            for (int x = 0; x <= 1; x++) {
                for (int y = 0; y <= 1; y++) {
                    if (rest(one, other, thing, x, y)) {
                        if (found == i) {
                            return 10 * x + y;
                        }
                        found++;
                    }
                }
            }
            return i == NONE ? found : NONE;
        }

        private boolean rest(int one, int other, int thing, int x, int y) {
            return firstHas(one, thing, x, y) >= firstHas(one, thing, 1 - x, y)
                && secondHas(one, other, thing, x, y) >= secondHas(one, other, thing, x, 1 - y);
        }
    }

    /** The draws of YEARS. */
    private static final class Draws {
        private static final long TIMES = 6364136223846793005L;
        private static final long AND = 1442695040888963407L;

        long drawn;

        int next(int j) {
            if (j < 1) {
                return 0;
            }
            drawn = drawn * TIMES + AND;
            return (int) ((drawn >>> 33) % j);
        }
    }
}
