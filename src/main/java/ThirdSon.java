/** The third son's rights: who has what in a duchy, by the law of tales (../shared/DOC.md). */
public final class ThirdSon {
    public static final int BAD = -1, STATE = -2, FULL = -3, NONE = -4;

    private static final int MOST_PEOPLE = 6;
    private static final int MOST_RULES = 5;
    private static final int ALL_RULES = (1 << MOST_RULES) - 1;
    private static final int FACTS = 5;
    private static final int THINGS = 4;
    private static final int MOST_TRIES = 3;
    private static final int TENTHS = 10;
    private static final int FIRST_ODDS = 5;

    private static final int ANY = 0, BORN = 1, FACT = 2, TRIED = 3, KIN = 4, BARE = 5;
    private static final int FIRST = 0, THIRD = 1, LAST = 2;
    private static final int FAILS = 5, GOES = 6, DEED_KINDS = 7;

    private static final int MOST_DEEDS = 3;
    private static final int MOST_SEEN = 6;
    private static final int IMAGES = 2;
    private static final int MOST_DRIFT = 60;
    private static final int MOST_READ = 20;
    private static final int PLACE_BASE = -10;
    private static final int FAULT_BASE = -10;
    private static final int REFUSED_BASE = -20;
    private static final int SEED_FACTOR = 1103515245;
    private static final int SEED_STEP = 12345;

    private final Tape tape = new Tape();
    private final Teller teller = new Teller();
    private final Sheets sheets = new Sheets();
    private final Duchy firstImage = new Duchy();
    private final Duchy secondImage = new Duchy();
    /** Where deeds are done that nobody does in earnest. */
    private final Duchy trial = new Duchy();
    private final int[] row = new int[MOST_DEEDS];
    private final int[] seenThings = new int[MOST_SEEN];
    private final int[] seenOwners = new int[MOST_SEEN];
    private Duchy duchy = new Duchy();
    /** What a text tells while it is read: it becomes the duchy only if the text is taken. */
    private Duchy draft = new Duchy();
    private int textFault;
    private int readFault;
    private int seen;
    private int kept;

    public ThirdSon() {
    }

    // ---- the text, what there is

    public int feed(int c) {
        if (c < 0 || c > 127) {
            return BAD;
        }
        return tape.append(c) ? tape.length : FULL;
    }

    public int end(int n) {
        int had = tape.length;
        if (n < 0 || n > had) {
            return BAD;
        }
        tape.length = n;
        return had;
    }

    public int text() {
        int lines = teller.tell(tape, draft);
        textFault = teller.fault;
        tape.length = 0;
        if (textFault != 0) {
            return PLACE_BASE - teller.place;
        }
        Duchy told = draft;
        draft = duchy;
        duchy = told;
        seen = 0;
        kept = 0;
        return lines;
    }

    public int fault() {
        return textFault;
    }

    public int rule(int what) {
        switch (what) {
            case 0: return duchy.people;
            case 1: return duchy.rules;
            case 2: return duchy.gone;
            default: return BAD;
        }
    }

    public int one(int p, int what) {
        if (!duchy.isOne(p)) {
            return BAD;
        }
        switch (what) {
            case 0: return duchy.parents[p];
            case 1: return duchy.facts[p];
            case 2: return duchy.tries[p];
            case 3: return duchy.isGone(p) ? 1 : 0;
            case 4: return duchy.placeAmongBorn(p, duchy.gone);
            case 5: return duchy.childrenLeft(p, duchy.gone);
            default: return BAD;
        }
    }

    public int odd(int f) {
        return isFact(f) ? duchy.odds[f] : BAD;
    }

    public int law(int k, int what) {
        if (!duchy.isRule(k)) {
            return BAD;
        }
        switch (what) {
            case 0: return duchy.ranks[k];
            case 1: return duchy.things[k];
            case 2: return duchy.claims[k];
            case 3: return duchy.numbers[k];
            case 4: return duchy.picks[k];
            case 5: return duchy.whoMeet(k, duchy.gone);
            case 6: return duchy.receiver(k, duchy.gone);
            default: return BAD;
        }
    }

    public int owner(int t) {
        return isThing(t) ? duchy.ownerNow(t) : BAD;
    }

    public int by(int t) {
        return isThing(t) ? duchy.rightOn(t, duchy.gone, ALL_RULES) : BAD;
    }

    // ---- what is changed

    public int does(int deed) {
        return duchy.act(deed);
    }

    public int comes(int p) {
        if (!duchy.isOne(p)) {
            return BAD;
        }
        int was = duchy.isGone(p) ? 1 : 0;
        duchy.gone &= ~(1 << p);
        return was;
    }

    public int tries(int p, int n) {
        if (!duchy.isOne(p) || n < 0 || n > MOST_TRIES) {
            return BAD;
        }
        int were = duchy.tries[p];
        duchy.tries[p] = n;
        return were;
    }

    public int hush(int p, int f) {
        if (!duchy.isOne(p) || !isFact(f)) {
            return BAD;
        }
        int was = duchy.isKnown(p, f) ? 1 : 0;
        duchy.facts[p] &= ~(1 << f);
        return was;
    }

    public int weigh(int f, int v) {
        if (!isFact(f) || v < 0 || v > TENTHS) {
            return BAD;
        }
        int were = duchy.odds[f];
        duchy.odds[f] = v;
        return were;
    }

    public int rank(int k, int r) {
        if (!duchy.isRule(k) || r < 1 || r > 9) {
            return BAD;
        }
        for (int other = 0; other < duchy.rules; other++) {
            if (other != k && duchy.things[other] == duchy.things[k] && duchy.ranks[other] == r) {
                return STATE;
            }
        }
        int was = duchy.ranks[k];
        duchy.ranks[k] = r;
        return was;
    }

    public int pick(int k, int v) {
        if (!duchy.isRule(k) || !isPick(v)) {
            return BAD;
        }
        int was = duchy.picks[k];
        duchy.picks[k] = v;
        return was;
    }

    // ---- deeds

    public int claim(int p, int t, int n, int what) {
        if (!duchy.isOne(p) || !isThing(t) || n < 0 || n > MOST_DEEDS) {
            return BAD;
        }
        int k = what - 10;
        if (what != 0 && (what < 10 || k >= n)) {
            return BAD;
        }
        int length = shortestRow(p, t, n);
        if (length == NONE || what == 0) {
            return length;
        }
        return k < length && k < row.length ? row[k] : NONE;
    }

    public int pivot(int t) {
        if (!isThing(t)) {
            return BAD;
        }
        int now = duchy.ownerNow(t);
        int pivots = 0;
        for (int p = 0; p < duchy.people; p++) {
            int without = duchy.gone | 1 << p;
            if (!duchy.isGone(p) && duchy.ownerIn(t, without, ALL_RULES) != now) {
                pivots |= 1 << p;
            }
        }
        return pivots;
    }

    public int spoils(int p) {
        if (!duchy.isOne(p)) {
            return BAD;
        }
        trial.copyFrom(duchy);
        int had = trial.thingsOf(p);
        int lost = 0;
        for (int kind = 0; kind <= FAILS; kind++) {
            int deed = 10 * p + kind;
            if (trial.act(deed) >= 0) {
                lost |= had & ~trial.thingsOf(p);
                trial.takeBack(deed);
            }
        }
        return lost;
    }

    // ---- all cases

    public int dead(int what) {
        int all = duchy.allRules();
        switch (what) {
            case 0: return all & ~givingSomewhere();
            case 1: return givingEverywhere();
            case 2: return all & ~rulesAtWork(NONE, NONE);
            default: return BAD;
        }
    }

    public int least(int what) {
        if (what < 0 || what > 1) {
            return BAD;
        }
        int all = duchy.allRules();
        int best = all;
        for (int set = 0; set < all; set++) {
            if (Integer.bitCount(set) < Integer.bitCount(best) && sameOwnersBy(set)) {
                best = set;
            }
        }
        return what == 0 ? Integer.bitCount(best) : best;
    }

    public int who(int t) {
        if (!isThing(t)) {
            return BAD;
        }
        int owners = 0;
        for (int absent = 0; absent < duchy.cases(); absent++) {
            int p = duchy.ownerIn(t, absent, ALL_RULES);
            if (p != NONE) {
                owners |= 1 << p;
            }
        }
        return owners;
    }

    public int via(int p, int t) {
        return duchy.isOne(p) && isThing(t) ? rulesAtWork(p, t) : BAD;
    }

    public long odds(int v, int p, int t, int what) {
        if (v < 0 || v > TENTHS || !duchy.isOne(p) || !isThing(t) || what < 0 || what > 1) {
            return BAD;
        }
        long ways = 0;
        for (int absent = 0; absent < duchy.cases(); absent++) {
            // who is gone already stays so in every case that can come about
            if ((absent & duchy.gone) == duchy.gone && duchy.ownerIn(t, absent, ALL_RULES) == p) {
                ways += waysTo(absent, v);
            }
        }
        int mayGo = duchy.people - Integer.bitCount(duchy.gone);
        return lowestTerms(ways, power(TENTHS, mayGo), what);
    }

    public int turn(int v, int t) {
        if (!isPick(v) || !isThing(t)) {
            return BAD;
        }
        trial.copyFrom(duchy);
        for (int k = 0; k < trial.rules; k++) {
            trial.picks[k] = v;
        }
        return trial.ownerNow(t);
    }

    // ---- trying

    public long best(int p, int t, int n, int what) {
        if (!duchy.isOne(p) || !isThing(t) || n < 0 || n > MOST_DEEDS || what < 0 || what > 2) {
            return BAD;
        }
        trial.copyFrom(duchy);
        long most = trial.ownerNow(t) == p ? power(TENTHS, n) : 0;
        int first = FACTS;
        for (int f = 0; f < FACTS; f++) {
            long ways = waysTryingFor(f, p, t, n);
            if (ways > most) {
                most = ways;
                first = f;
            }
        }
        return what == 2 ? first : lowestTerms(most, power(TENTHS, n), what);
    }

    // ---- seen

    public int see(int t, int p) {
        if (!isThing(t) || (p != NONE && !duchy.isOne(p))) {
            return BAD;
        }
        if (seen >= MOST_SEEN) {
            return FULL;
        }
        seenThings[seen] = t;
        seenOwners[seen] = p;
        seen++;
        return seen;
    }

    public int forget(int n) {
        if (n < 0 || n > seen) {
            return BAD;
        }
        int were = seen;
        seen = n;
        return were;
    }

    public int fits(int what) {
        if (what < 0 || what > 3) {
            return BAD;
        }
        int fitting = 0;
        int least = NONE;
        int goneInAll = duchy.everybody();
        int goneInSome = 0;
        for (int absent = 0; absent < duchy.cases(); absent++) {
            if (isAsSeen(absent)) {
                fitting++;
                least = least == NONE ? absent : least;
                goneInAll &= absent;
                goneInSome |= absent;
            }
        }
        if (what == 0 || fitting == 0) {
            return what == 0 ? fitting : NONE;
        }
        if (what == 1) {
            return least;
        }
        return what == 2 ? goneInAll : duchy.everybody() & ~goneInSome;
    }

    // ---- by a seed

    public int drift(int seed, int n, int what) {
        if (n < 1 || n > MOST_DRIFT || what < 0 || what > 1) {
            return BAD;
        }
        int people = duchy.people;
        if (people <= 0) {
            return STATE;
        }
        trial.copyFrom(duchy);
        int owner = trial.ownerNow(0);
        int changes = 0;
        for (int i = 0; i < n; i++) {
            seed = nextSeed(seed);
            int p = drawn(seed) % people;
            seed = nextSeed(seed);
            trial.act(10 * p + drawn(seed) % DEED_KINDS);
            if (trial.gone == trial.everybody()) {
                trial.gone = 0;
            }
            int now = trial.ownerNow(0);
            changes += now != owner ? 1 : 0;
            owner = now;
        }
        return what == 0 ? changes : owner;
    }

    // ---- images, sheets

    public int keep(int k) {
        if (k < 0 || k >= IMAGES) {
            return BAD;
        }
        int was = kept >> k & 1;
        image(k).copyFrom(duchy);
        kept |= 1 << k;
        return was;
    }

    public int back(int k) {
        if (k < 0 || k >= IMAGES) {
            return BAD;
        }
        if ((kept >> k & 1) == 0) {
            return STATE;
        }
        duchy.copyFrom(image(k));
        return duchy.gone;
    }

    public int sheet(int k, int lane, int n) {
        if (!sheets.isSheet(k) || !sheets.isLane(lane) || n > Sheets.MOST_CELLS) {
            return BAD;
        }
        if (n < 0) {
            return FAULT_BASE - Sheets.SIZE_FAULT;
        }
        sheets.renew(k, lane, n);
        return 1;
    }

    public int lay(int k, int i, int v) {
        if (!sheets.isSheet(k)) {
            return BAD;
        }
        int found = sheets.faultAt(k, sheets.laneOf(k), i);
        if (found != 0) {
            return FAULT_BASE - found;
        }
        sheets.put(k, i, v);
        return 1;
    }

    public int read(int k, int lane, int f, int n) {
        if (!sheets.isSheet(k) || !sheets.isLane(lane) || n < 0 || n > MOST_READ) {
            return BAD;
        }
        trial.copyFrom(duchy);
        int found = 0;
        int done = 0;
        while (done < n) {
            // f + done can't wrap: a cell beyond the row ends the loop first
            found = sheets.faultAt(k, lane, f + done);
            if (found != 0) {
                break;
            }
            if (trial.act(sheets.cell(k, f + done)) < 0) {
                return REFUSED_BASE - done;
            }
            done++;
        }
        duchy.copyFrom(trial);
        readFault = found;
        return done;
    }

    public int torn() {
        return readFault;
    }

    public int count(int what) {
        switch (what) {
            case 0: return seen;
            case 1: return Integer.bitCount(kept);
            case 2: return tape.length;
            case 3: return sheets.sizeOf(0);
            case 4: return duchy.ownedThings();
            case 5: return duchy.knownFacts();
            case 6: return duchy.allTries();
            default: return BAD;
        }
    }

    // ---- the parts of the answers

    private static boolean isFact(int f) {
        return f >= 0 && f < FACTS;
    }

    private static boolean isThing(int t) {
        return t >= 0 && t < THINGS;
    }

    private static boolean isPick(int v) {
        return v >= FIRST && v <= LAST;
    }

    /** Leaves the first of the shortest rows in row: how many deeds it has; NONE. */
    private int shortestRow(int p, int t, int n) {
        trial.copyFrom(duchy);
        for (int length = 0; length <= n; length++) {
            if (findRow(trial, row, p, t, length, 0, 0)) {
                return length;
            }
        }
        return NONE;
    }

    /**
     * Whether deeds from place on, up to the length, make p the owner of t.
     * The first row by numbers never falls: sorted, a row stays one that can be done (he who goes
     * does so last of his deeds) and ends alike. So no deed below the one before needs a look.
     */
    private static boolean findRow(Duchy trial, int[] row, int p, int t, int length, int place,
            int from) {
        if (place < 0 || place >= length || place >= row.length) {
            return trial.ownerIn(t, trial.gone, ALL_RULES) == p;
        }
        for (int deed = from; deed < 10 * trial.people; deed++) {
            if (trial.act(deed) < 0) {
                continue;
            }
            row[place] = deed;
            boolean found = findRow(trial, row, p, t, length, place + 1, deed);
            trial.takeBack(deed);
            if (found) {
                return true;
            }
        }
        return false;
    }

    private int givingSomewhere() {
        int giving = 0;
        for (int absent = 0; absent < duchy.cases(); absent++) {
            giving |= duchy.givingRules(absent);
        }
        return giving;
    }

    private int givingEverywhere() {
        int giving = duchy.allRules();
        for (int absent = 0; absent < duchy.cases(); absent++) {
            if (absent != duchy.everybody()) {
                giving &= duchy.givingRules(absent);
            }
        }
        return giving;
    }

    /** Rules by which in some case a thing is a one's; NONE: any thing, anybody's. */
    private int rulesAtWork(int p, int t) {
        int working = 0;
        for (int absent = 0; absent < duchy.cases(); absent++) {
            for (int thing = 0; thing < THINGS; thing++) {
                int k = duchy.rightOn(thing, absent, ALL_RULES);
                if (k == NONE || (t != NONE && thing != t)) {
                    continue;
                }
                if (p == NONE || duchy.receiver(k, absent) == p) {
                    working |= 1 << k;
                }
            }
        }
        return working;
    }

    private boolean sameOwnersBy(int set) {
        for (int absent = 0; absent < duchy.cases(); absent++) {
            for (int t = 0; t < THINGS; t++) {
                if (duchy.ownerIn(t, absent, set) != duchy.ownerIn(t, absent, ALL_RULES)) {
                    return false;
                }
            }
        }
        return true;
    }

    /** How likely just these are gone, in parts of ten to the power of how many may go. */
    private long waysTo(int absent, int v) {
        int going = Integer.bitCount(absent & ~duchy.gone);
        int staying = duchy.people - Integer.bitCount(absent);
        return power(v, going) * power(TENTHS - v, staying);
    }

    private boolean isAsSeen(int absent) {
        for (int i = 0; i < seen && i < MOST_SEEN; i++) {
            if (duchy.ownerIn(seenThings[i], absent, ALL_RULES) != seenOwners[i]) {
                return false;
            }
        }
        return true;
    }

    /** How likely it comes out well at best, in parts of ten to the power of left. */
    private long waysAtBest(int p, int t, int left) {
        boolean well = trial.ownerIn(t, trial.gone, ALL_RULES) == p;
        long most = well ? power(TENTHS, left) : 0;
        for (int f = 0; f < FACTS; f++) {
            most = Math.max(most, waysTryingFor(f, p, t, left));
        }
        return most;
    }

    /** How likely it comes out well if p tries for f next, likewise; NONE: he can't. */
    private long waysTryingFor(int f, int p, int t, int left) {
        if (left <= 0 || !trial.isOne(p) || trial.tries[p] >= MOST_TRIES || trial.isKnown(p, f)) {
            return NONE;
        }
        trial.tries[p]++;
        long failing = waysAtBest(p, t, left - 1);
        trial.facts[p] |= 1 << f;
        long knowing = waysAtBest(p, t, left - 1);
        trial.facts[p] &= ~(1 << f);
        trial.tries[p]--;
        int odds = trial.odds[f];
        return odds * knowing + (TENTHS - odds) * failing;
    }

    private Duchy image(int k) {
        return k == 0 ? firstImage : secondImage;
    }

    private static int nextSeed(int seed) {
        return seed * SEED_FACTOR + SEED_STEP;
    }

    private static int drawn(int seed) {
        return seed >>> 16 & 0x7fff;
    }

    private static long power(int base, int exponent) {
        long product = 1;
        for (int i = 0; i < exponent; i++) {
            product *= base;
        }
        return product;
    }

    /** Of a fraction in lowest terms: 0 what is above, 1 what is below. */
    private static long lowestTerms(long above, long below, int what) {
        long divisor = below;
        long rest = above;
        // Euclid's steps are far fewer than this for numbers up to a million
        for (int i = 0; i < 100 && rest != 0; i++) {
            long next = divisor % rest;
            divisor = rest;
            rest = next;
        }
        if (divisor <= 0) {
            return BAD;
        }
        return (what == 0 ? above : below) / divisor;
    }

    /** People and rules: who meets a rule, who has what, what deeds do. */
    private static final class Duchy {
        int people;
        int gone;
        int rules;
        final int[] parents = new int[MOST_PEOPLE];
        /** Bits: his parent, that one's parent, and so on. */
        final int[] ancestors = new int[MOST_PEOPLE];
        final int[] facts = new int[MOST_PEOPLE];
        final int[] tries = new int[MOST_PEOPLE];
        final int[] odds = new int[FACTS];
        final int[] ranks = new int[MOST_RULES];
        final int[] things = new int[MOST_RULES];
        final int[] claims = new int[MOST_RULES];
        final int[] numbers = new int[MOST_RULES];
        final int[] picks = new int[MOST_RULES];

        Duchy() {
            clear();
        }

        void clear() {
            people = 0;
            gone = 0;
            rules = 0;
            for (int p = 0; p < MOST_PEOPLE; p++) {
                facts[p] = 0;
                tries[p] = 0;
            }
            for (int f = 0; f < FACTS; f++) {
                odds[f] = FIRST_ODDS;
            }
        }

        void copyFrom(Duchy other) {
            if (other == null) {
                return;
            }
            people = other.people;
            gone = other.gone;
            rules = other.rules;
            for (int p = 0; p < MOST_PEOPLE; p++) {
                parents[p] = other.parents[p];
                ancestors[p] = other.ancestors[p];
                facts[p] = other.facts[p];
                tries[p] = other.tries[p];
            }
            for (int f = 0; f < FACTS; f++) {
                odds[f] = other.odds[f];
            }
            for (int k = 0; k < MOST_RULES; k++) {
                ranks[k] = other.ranks[k];
                things[k] = other.things[k];
                claims[k] = other.claims[k];
                numbers[k] = other.numbers[k];
                picks[k] = other.picks[k];
            }
        }

        /** Parent: a one who is there already, or NONE. */
        void addOne(int parent) {
            if (people >= MOST_PEOPLE) {
                return;
            }
            parents[people] = NONE;
            ancestors[people] = 0;
            if (isOne(parent)) {
                parents[people] = parent;
                ancestors[people] = ancestors[parent] | 1 << parent;
            }
            people++;
        }

        void addRule(int rank, int thing, int claim, int number, int pick) {
            if (rules >= MOST_RULES) {
                return;
            }
            ranks[rules] = rank;
            things[rules] = thing;
            claims[rules] = claim;
            numbers[rules] = number;
            picks[rules] = pick;
            rules++;
        }

        boolean isOne(int p) {
            return p >= 0 && p < people && p < MOST_PEOPLE;
        }

        boolean isRule(int k) {
            return k >= 0 && k < rules && k < MOST_RULES;
        }

        boolean isGone(int p) {
            return (gone >> p & 1) != 0;
        }

        boolean isKnown(int p, int f) {
            return isOne(p) && (facts[p] >> f & 1) != 0;
        }

        int everybody() {
            return (1 << people) - 1;
        }

        int allRules() {
            return (1 << rules) - 1;
        }

        int cases() {
            return 1 << people;
        }

        /** Which he is of those born of his parent who are not absent, 1 on; 0: he is absent. */
        int placeAmongBorn(int p, int absent) {
            if (p < 0 || p >= people || (absent >> p & 1) != 0) {
                return 0;
            }
            int place = 0;
            for (int q = 0; q <= p; q++) {
                if (parents[q] == parents[p] && (absent >> q & 1) == 0) {
                    place++;
                }
            }
            return place;
        }

        int childrenLeft(int p, int absent) {
            int children = 0;
            for (int q = 0; q < people; q++) {
                if (parents[q] == p && (absent >> q & 1) == 0) {
                    children++;
                }
            }
            return children;
        }

        boolean meets(int p, int k, int absent) {
            if (!isOne(p) || !isRule(k) || (absent >> p & 1) != 0) {
                return false;
            }
            int v = numbers[k];
            switch (claims[k]) {
                case ANY: return true;
                case BORN: return placeAmongBorn(p, absent) == v;
                case FACT: return (facts[p] >> v & 1) != 0;
                case TRIED: return tries[p] >= v;
                case KIN: return (ancestors[p] >> v & 1) != 0;
                default: return childrenLeft(p, absent) == v;
            }
        }

        int whoMeet(int k, int absent) {
            int meeting = 0;
            for (int p = 0; p < people; p++) {
                if (meets(p, k, absent)) {
                    meeting |= 1 << p;
                }
            }
            return meeting;
        }

        /** To whom a rule gives while some are absent; NONE. */
        int receiver(int k, int absent) {
            if (!isRule(k)) {
                return NONE;
            }
            int wanted = picks[k] == THIRD ? 3 : 1;
            for (int i = 0; i < people; i++) {
                int p = picks[k] == LAST ? people - 1 - i : i;
                if (meets(p, k, absent)) {
                    wanted--;
                    if (wanted == 0) {
                        return p;
                    }
                }
            }
            return NONE;
        }

        /** The rule of a set by which a thing is somebody's while some are absent; NONE. */
        int rightOn(int t, int absent, int set) {
            int right = NONE;
            for (int k = 0; k < rules; k++) {
                if ((set >> k & 1) == 0 || things[k] != t) {
                    continue;
                }
                boolean ahead = right == NONE || ranks[k] < ranks[right];
                if (ahead && receiver(k, absent) != NONE) {
                    right = k;
                }
            }
            return right;
        }

        int ownerIn(int t, int absent, int set) {
            return receiver(rightOn(t, absent, set), absent);
        }

        int ownerNow(int t) {
            return ownerIn(t, gone, ALL_RULES);
        }

        int thingsOf(int p) {
            int owned = 0;
            for (int t = 0; t < THINGS; t++) {
                if (ownerNow(t) == p) {
                    owned |= 1 << t;
                }
            }
            return owned;
        }

        int givingRules(int absent) {
            int giving = 0;
            for (int k = 0; k < rules; k++) {
                if (receiver(k, absent) != NONE) {
                    giving |= 1 << k;
                }
            }
            return giving;
        }

        /** Does a deed: tries of that one then; BAD, STATE: why it can't be done. */
        int act(int deed) {
            int p = deed / 10;
            int kind = deed % 10;
            if (deed < 0 || !isOne(p) || kind >= DEED_KINDS) {
                return BAD;
            }
            if (isGone(p)) {
                return STATE;
            }
            if (kind == GOES) {
                gone |= 1 << p;
                return tries[p];
            }
            if (tries[p] >= MOST_TRIES || (isFact(kind) && isKnown(p, kind))) {
                return STATE;
            }
            if (isFact(kind)) {
                facts[p] |= 1 << kind;
            }
            tries[p]++;
            return tries[p];
        }

        /** Undoes a deed that was done, with none behind it. */
        void takeBack(int deed) {
            int p = deed / 10;
            int kind = deed % 10;
            if (!isOne(p)) {
                return;
            }
            if (kind == GOES) {
                gone &= ~(1 << p);
                return;
            }
            if (isFact(kind)) {
                facts[p] &= ~(1 << kind);
            }
            tries[p]--;
        }

        boolean hasEqualRanks() {
            for (int k = 0; k < rules; k++) {
                for (int other = 0; other < k; other++) {
                    if (things[other] == things[k] && ranks[other] == ranks[k]) {
                        return true;
                    }
                }
            }
            return false;
        }

        int ownedThings() {
            int owned = 0;
            for (int t = 0; t < THINGS; t++) {
                if (ownerNow(t) != NONE) {
                    owned++;
                }
            }
            return owned;
        }

        int knownFacts() {
            int known = 0;
            for (int p = 0; p < people; p++) {
                known += Integer.bitCount(facts[p]);
            }
            return known;
        }

        int allTries() {
            int sum = 0;
            for (int p = 0; p < people; p++) {
                sum += tries[p];
            }
            return sum;
        }
    }

    /** The bytes of a text, and the token of them that is being looked at. */
    private static final class Tape {
        static final int SIZE = 160;
        static final int TAPE_END = 0, NAME = 1, NUMBER = 2, STOP = 3, NO_TOKEN = 4;

        final byte[] bytes = new byte[SIZE];
        int length;
        int kind;
        int start;
        int value;
        private int at;

        boolean append(int c) {
            if (length < 0 || length >= SIZE) {
                return false;
            }
            bytes[length] = (byte) c;
            length++;
            return true;
        }

        void rewind() {
            at = 0;
        }

        /** Reads the next token, as long as may be. */
        void advance() {
            while (at < length && byteAt(at) == ' ') {
                at++;
            }
            start = at;
            int c = byteAt(at);
            if (c < 0) {
                kind = TAPE_END;
            } else if (isLetter(c)) {
                readName();
            } else if (isFigure(c)) {
                readNumber();
            } else {
                kind = c == ';' ? STOP : NO_TOKEN;
                at++;
            }
        }

        /** Whether the token is this name. */
        boolean isWord(String word) {
            if (kind != NAME || word == null || at - start != word.length()) {
                return false;
            }
            for (int i = 0; i < word.length(); i++) {
                if (byteAt(start + i) != word.charAt(i)) {
                    return false;
                }
            }
            return true;
        }

        private void readName() {
            kind = NAME;
            while (at < length && isLetter(byteAt(at))) {
                at++;
            }
        }

        private void readNumber() {
            value = 0;
            while (at < length && isFigure(byteAt(at))) {
                // a number that is too long may wrap here: it is no token anyway
                value = 10 * value + byteAt(at) - '0';
                at++;
            }
            kind = at - start <= 2 ? NUMBER : NO_TOKEN;
        }

        /** Below 0 where the tape has no byte. */
        private int byteAt(int i) {
            return i >= 0 && i < length && i < SIZE ? bytes[i] : -1;
        }

        private static boolean isLetter(int c) {
            return c >= 'a' && c <= 'z';
        }

        private static boolean isFigure(int c) {
            return c >= '0' && c <= '9';
        }
    }

    /** Tells a duchy as a tape's text has it, up to the text's first fault. */
    private static final class Teller {
        static final int WRONG_TOKEN = 1, MISPLACED = 2, OUT_OF_BOUNDS = 3, TOLD_ALREADY = 4,
            TOO_MANY = 5, NO_SUCH_ONE = 6, SAME_RANK = 7;

        int fault;
        int place;
        /** Bits: ones of fact, gone, kin; they may be told behind it. */
        private int named;
        /** Bits: facts whose odds are told. */
        private int weighed;

        /** How many lines there are; at a fault those ahead of it. */
        int tell(Tape tape, Duchy duchy) {
            fault = 0;
            place = 0;
            named = 0;
            weighed = 0;
            if (tape == null || duchy == null) {
                return 0;
            }
            duchy.clear();
            tape.rewind();
            tape.advance();
            int lines = 0;
            // a line has two bytes at least, so the tape's size bounds the lines
            while (lines < Tape.SIZE && tape.kind != Tape.TAPE_END) {
                if (!tellLine(tape, duchy)) {
                    return lines;
                }
                lines++;
                tape.advance();
            }
            checkWhole(tape, duchy);
            return lines;
        }

        private void checkWhole(Tape tape, Duchy duchy) {
            if ((named & ~duchy.everybody()) != 0) {
                fail(NO_SUCH_ONE, tape.length);
            } else if (duchy.hasEqualRanks()) {
                fail(SAME_RANK, tape.length);
            }
        }

        /** A line whose first token has been read. */
        private boolean tellLine(Tape tape, Duchy duchy) {
            if (tape.isWord("one")) {
                return tellOne(tape, duchy);
            }
            if (tape.isWord("fact")) {
                return tellFact(tape, duchy);
            }
            if (tape.isWord("gone")) {
                return tellGone(tape, duchy);
            }
            if (tape.isWord("odds")) {
                return tellOdds(tape, duchy);
            }
            if (tape.isWord("rule")) {
                return tellRule(tape, duchy);
            }
            return misplaced(tape);
        }

        private boolean tellOne(Tape tape, Duchy duchy) {
            if (duchy.people >= MOST_PEOPLE) {
                return fail(TOO_MANY, tape.start);
            }
            int parent = NONE;
            tape.advance();
            if (tape.kind == Tape.NUMBER) {
                if (!duchy.isOne(tape.value)) {
                    return fail(OUT_OF_BOUNDS, tape.start);
                }
                parent = tape.value;
                tape.advance();
            }
            duchy.addOne(parent);
            return tape.kind == Tape.STOP || misplaced(tape);
        }

        private boolean tellFact(Tape tape, Duchy duchy) {
            if (!number(tape, 0, MOST_PEOPLE - 1)) {
                return false;
            }
            int p = tape.value;
            if (!number(tape, 0, FACTS - 1)) {
                return false;
            }
            if (p < 0 || p >= MOST_PEOPLE || (duchy.facts[p] >> tape.value & 1) != 0) {
                return fail(TOLD_ALREADY, tape.start);
            }
            duchy.facts[p] |= 1 << tape.value;
            named |= 1 << p;
            return stop(tape);
        }

        private boolean tellGone(Tape tape, Duchy duchy) {
            if (!number(tape, 0, MOST_PEOPLE - 1)) {
                return false;
            }
            if (duchy.isGone(tape.value)) {
                return fail(TOLD_ALREADY, tape.start);
            }
            duchy.gone |= 1 << tape.value;
            named |= 1 << tape.value;
            return stop(tape);
        }

        private boolean tellOdds(Tape tape, Duchy duchy) {
            if (!number(tape, 0, FACTS - 1)) {
                return false;
            }
            int f = tape.value;
            if ((weighed >> f & 1) != 0) {
                return fail(TOLD_ALREADY, tape.start);
            }
            if (!number(tape, 0, TENTHS)) {
                return false;
            }
            if (isFact(f)) {
                duchy.odds[f] = tape.value;
            }
            weighed |= 1 << f;
            return stop(tape);
        }

        private boolean tellRule(Tape tape, Duchy duchy) {
            if (duchy.rules >= MOST_RULES) {
                return fail(TOO_MANY, tape.start);
            }
            if (!number(tape, 1, 9)) {
                return false;
            }
            int rank = tape.value;
            if (!number(tape, 0, THINGS - 1)) {
                return false;
            }
            int thing = tape.value;
            tape.advance();
            int claim = claimNamed(tape);
            if (claim == NONE) {
                return misplaced(tape);
            }
            if (!number(tape, claim == BORN ? 1 : 0, mostOf(claim))) {
                return false;
            }
            int number = tape.value;
            tape.advance();
            int pick = pickNamed(tape);
            if (pick == NONE) {
                return misplaced(tape);
            }
            duchy.addRule(rank, thing, claim, number, pick);
            if (claim == KIN) {
                named |= 1 << number;
            }
            return stop(tape);
        }

        private static int claimNamed(Tape tape) {
            if (tape.isWord("any")) {
                return ANY;
            }
            if (tape.isWord("born")) {
                return BORN;
            }
            if (tape.isWord("fact")) {
                return FACT;
            }
            if (tape.isWord("tried")) {
                return TRIED;
            }
            if (tape.isWord("kin")) {
                return KIN;
            }
            return tape.isWord("bare") ? BARE : NONE;
        }

        /** The greatest number that a claim may have. */
        private static int mostOf(int claim) {
            switch (claim) {
                case ANY: return 9;
                case BORN: return MOST_PEOPLE;
                case FACT: return FACTS - 1;
                case TRIED: return MOST_TRIES;
                default: return MOST_PEOPLE - 1;
            }
        }

        private static int pickNamed(Tape tape) {
            if (tape.isWord("first")) {
                return FIRST;
            }
            if (tape.isWord("third")) {
                return THIRD;
            }
            return tape.isWord("last") ? LAST : NONE;
        }

        /** Reads a number that must stand within its bounds. */
        private boolean number(Tape tape, int low, int high) {
            tape.advance();
            if (tape.kind != Tape.NUMBER) {
                return misplaced(tape);
            }
            return (tape.value >= low && tape.value <= high) || fail(OUT_OF_BOUNDS, tape.start);
        }

        private boolean stop(Tape tape) {
            tape.advance();
            return tape.kind == Tape.STOP || misplaced(tape);
        }

        private boolean misplaced(Tape tape) {
            return fail(tape.kind == Tape.NO_TOKEN ? WRONG_TOKEN : MISPLACED, tape.start);
        }

        private boolean fail(int what, int where) {
            fault = what;
            place = where;
            return false;
        }
    }

    /** Rows of cells, each of a lane, made once and used again. */
    private static final class Sheets {
        static final int MOST_CELLS = 40;
        static final int NULL_FAULT = 1, INDEX_FAULT = 2, CAST_FAULT = 3, SIZE_FAULT = 4;
        private static final int SHEETS = 4;
        private static final int BYTES = 0, SHORTS = 1, INTS = 2;

        private final int[][] cells = new int[SHEETS][MOST_CELLS];
        /** NONE: the sheet has nothing. */
        private final int[] lanes = {NONE, NONE, NONE, NONE};
        private final int[] sizes = new int[SHEETS];

        boolean isSheet(int k) {
            return k >= 0 && k < SHEETS;
        }

        boolean isLane(int lane) {
            return lane >= BYTES && lane <= INTS;
        }

        /** NONE: the sheet has nothing. */
        int laneOf(int k) {
            return isSheet(k) ? lanes[k] : NONE;
        }

        /** NONE: the sheet has nothing. */
        int sizeOf(int k) {
            return laneOf(k) == NONE ? NONE : sizes[k];
        }

        void renew(int k, int lane, int n) {
            if (!isSheet(k)) {
                return;
            }
            lanes[k] = lane;
            sizes[k] = n;
            for (int i = 0; i < MOST_CELLS; i++) {
                cells[k][i] = 0;
            }
        }

        /** What the machine would find at a cell of a sheet taken as of a lane; 0. */
        int faultAt(int k, int lane, int i) {
            if (laneOf(k) == NONE) {
                return NULL_FAULT;
            }
            if (laneOf(k) != lane) {
                return CAST_FAULT;
            }
            return isCell(k, i) ? 0 : INDEX_FAULT;
        }

        void put(int k, int i, int v) {
            if (!isCell(k, i)) {
                return;
            }
            switch (laneOf(k)) {
                case BYTES:
                    cells[k][i] = (byte) v;
                    break;
                case SHORTS:
                    cells[k][i] = (short) v;
                    break;
                default:
                    cells[k][i] = v;
                    break;
            }
        }

        int cell(int k, int i) {
            return isCell(k, i) ? cells[k][i] : 0;
        }

        private boolean isCell(int k, int i) {
            return i >= 0 && i < sizeOf(k) && i < MOST_CELLS;
        }
    }
}
