import java.util.ArrayList;
import java.util.Arrays;
import java.util.List;
import java.util.TreeSet;

/** The document once more, told as slowly and as near to its words as may be, to compare with. */
final class Oracle {
    static final int BAD = -1, STATE = -2, FULL = -3, NONE = -4;
    private static final List<String> CLAIMS =
        List.of("any", "born", "fact", "tried", "kin", "bare");
    private static final List<String> PICKS = List.of("first", "third", "last");
    private static final int[] LOWEST = {0, 1, 0, 0, 0, 0};
    private static final int[] HIGHEST = {9, 6, 4, 3, 5, 5};

    static final class Person {
        Person parent;
        TreeSet<Integer> facts = new TreeSet<>();
        int tries;
        boolean gone;
    }

    static final class Rule {
        int rank;
        int thing;
        String claim;
        int number;
        String pick;
    }

    static final class World {
        List<Person> people = new ArrayList<>();
        List<Rule> rules = new ArrayList<>();
        int[] odds = {5, 5, 5, 5, 5};

        World copy() {
            World w = new World();
            for (Person p : people) {
                Person q = new Person();
                q.parent = p.parent == null ? null : w.people.get(people.indexOf(p.parent));
                q.facts.addAll(p.facts);
                q.tries = p.tries;
                q.gone = p.gone;
                w.people.add(q);
            }
            for (Rule r : rules) {
                Rule s = new Rule();
                s.rank = r.rank;
                s.thing = r.thing;
                s.claim = r.claim;
                s.number = r.number;
                s.pick = r.pick;
                w.rules.add(s);
            }
            w.odds = odds.clone();
            return w;
        }

        World inCase(int absent) {
            World w = copy();
            for (int p = 0; p < people.size(); p++) {
                w.people.get(p).gone = (absent >> p & 1) == 1;
            }
            return w;
        }

        World withRules(int set) {
            World w = copy();
            w.rules.clear();
            World again = copy();
            for (int k = 0; k < rules.size(); k++) {
                if ((set >> k & 1) == 1) {
                    w.rules.add(again.rules.get(k));
                }
            }
            return w;
        }

        boolean meets(Person p, Rule r) {
            if (p.gone) {
                return false;
            }
            switch (r.claim) {
                case "any":
                    return true;
                case "born":
                    return born(p) == r.number;
                case "fact":
                    return p.facts.contains(r.number);
                case "tried":
                    return p.tries >= r.number;
                case "kin":
                    for (Person q = p.parent; q != null; q = q.parent) {
                        if (people.indexOf(q) == r.number) {
                            return true;
                        }
                    }
                    return false;
                default:
                    return children(p) == r.number;
            }
        }

        int born(Person p) {
            if (p.gone) {
                return 0;
            }
            List<Person> brothers = new ArrayList<>();
            for (Person q : people) {
                if (q.parent == p.parent && !q.gone) {
                    brothers.add(q);
                }
            }
            return brothers.indexOf(p) + 1;
        }

        int children(Person p) {
            int n = 0;
            for (Person q : people) {
                if (q.parent == p && !q.gone) {
                    n++;
                }
            }
            return n;
        }

        int gives(Rule r) {
            List<Integer> all = new ArrayList<>();
            for (int p = 0; p < people.size(); p++) {
                if (meets(people.get(p), r)) {
                    all.add(p);
                }
            }
            switch (r.pick) {
                case "first":
                    return all.isEmpty() ? NONE : all.get(0);
                case "third":
                    return all.size() < 3 ? NONE : all.get(2);
                default:
                    return all.isEmpty() ? NONE : all.get(all.size() - 1);
            }
        }

        int by(int t) {
            for (int rank = 1; rank <= 9; rank++) {
                for (int k = 0; k < rules.size(); k++) {
                    Rule r = rules.get(k);
                    if (r.rank == rank && r.thing == t && gives(r) != NONE) {
                        return k;
                    }
                }
            }
            return NONE;
        }

        int owner(int t) {
            int k = by(t);
            return k == NONE ? NONE : gives(rules.get(k));
        }

        int gone() {
            int bits = 0;
            for (int p = 0; p < people.size(); p++) {
                bits |= people.get(p).gone ? 1 << p : 0;
            }
            return bits;
        }

        int does(int deed) {
            if (deed < 0 || deed / 10 >= people.size() || deed % 10 > 6) {
                return BAD;
            }
            Person p = people.get(deed / 10);
            int kind = deed % 10;
            if (p.gone) {
                return STATE;
            }
            if (kind == 6) {
                p.gone = true;
                return p.tries;
            }
            if (p.tries == 3 || kind < 5 && p.facts.contains(kind)) {
                return STATE;
            }
            if (kind < 5) {
                p.facts.add(kind);
            }
            return ++p.tries;
        }
    }

    private static final class Fault extends RuntimeException {
        private static final long serialVersionUID = 1;
        final int kind;
        final int place;

        Fault(int kind, int place) {
            super(null, null, false, false);
            this.kind = kind;
            this.place = place;
        }
    }

    World world = new World();
    StringBuilder tape = new StringBuilder();
    private int textFault;
    private int readFault;
    private final List<int[]> seen = new ArrayList<>();
    private final World[] images = new World[2];
    private final Object[] sheets = new Object[4];

    int feed(int c) {
        if (c < 0 || c > 127) {
            return BAD;
        }
        if (tape.length() == 160) {
            return FULL;
        }
        tape.append((char) c);
        return tape.length();
    }

    int end(int n) {
        int had = tape.length();
        if (n < 0 || n > had) {
            return BAD;
        }
        tape.setLength(n);
        return had;
    }

    // ---- text

    private String source;
    private int at;

    /** The next token: its place stands in tokenAt. */
    private int tokenAt;

    private String token() {
        while (at < source.length() && source.charAt(at) == ' ') {
            at++;
        }
        tokenAt = at;
        String rest = source.substring(at);
        if (rest.isEmpty()) {
            return "";
        }
        String name = rest.replaceAll("(?s)^([a-z]*).*$", "$1");
        String figures = rest.replaceAll("(?s)^([0-9]*).*$", "$1");
        String token = name.isEmpty() ? figures : name;
        if (token.isEmpty()) {
            if (rest.charAt(0) != ';') {
                throw new Fault(1, at);
            }
            token = ";";
        }
        if (figures.length() > 2) {
            throw new Fault(1, at);
        }
        at += token.length();
        return token;
    }

    private int numberOf(String token, int low, int high) {
        if (token.isEmpty() || !Character.isDigit(token.charAt(0))) {
            throw new Fault(2, tokenAt);
        }
        int value = Integer.parseInt(token);
        if (value < low || value > high) {
            throw new Fault(3, tokenAt);
        }
        return value;
    }

    private void mustBeStop(String token) {
        if (!token.equals(";")) {
            throw new Fault(2, tokenAt);
        }
    }

    private String nameOf(String token, List<String> names) {
        if (!names.contains(token)) {
            throw new Fault(2, tokenAt);
        }
        return token;
    }

    int text() {
        source = tape.toString();
        tape.setLength(0);
        at = 0;
        try {
            World told = new World();
            int lines = readText(told);
            world = told;
            seen.clear();
            Arrays.fill(images, null);
            textFault = 0;
            return lines;
        } catch (Fault f) {
            textFault = f.kind;
            return -10 - f.place;
        }
    }

    private int readText(World told) {
        Person[] any = new Person[6];
        for (int i = 0; i < 6; i++) {
            any[i] = new Person();
        }
        boolean[] named = new boolean[6];
        boolean[] weighed = new boolean[5];
        int lines = 0;
        for (String t = token(); !t.isEmpty(); t = token()) {
            lines++;
            if (t.equals("one")) {
                int count = told.people.size();
                if (count == 6) {
                    throw new Fault(5, tokenAt);
                }
                String next = token();
                Person p = any[count];
                if (!next.equals(";")) {
                    p.parent = any[numberOf(next, 0, count - 1)];
                    next = token();
                }
                told.people.add(p);
                mustBeStop(next);
            } else if (t.equals("fact")) {
                int p = numberOf(token(), 0, 5);
                named[p] = true;
                if (!any[p].facts.add(numberOf(token(), 0, 4))) {
                    throw new Fault(4, tokenAt);
                }
                mustBeStop(token());
            } else if (t.equals("gone")) {
                int p = numberOf(token(), 0, 5);
                named[p] = true;
                if (any[p].gone) {
                    throw new Fault(4, tokenAt);
                }
                any[p].gone = true;
                mustBeStop(token());
            } else if (t.equals("odds")) {
                int f = numberOf(token(), 0, 4);
                if (weighed[f]) {
                    throw new Fault(4, tokenAt);
                }
                weighed[f] = true;
                told.odds[f] = numberOf(token(), 0, 10);
                mustBeStop(token());
            } else if (t.equals("rule")) {
                if (told.rules.size() == 5) {
                    throw new Fault(5, tokenAt);
                }
                Rule r = new Rule();
                r.rank = numberOf(token(), 1, 9);
                r.thing = numberOf(token(), 0, 3);
                r.claim = nameOf(token(), CLAIMS);
                int c = CLAIMS.indexOf(r.claim);
                r.number = numberOf(token(), LOWEST[c], HIGHEST[c]);
                if (r.claim.equals("kin")) {
                    named[r.number] = true;
                }
                r.pick = nameOf(token(), PICKS);
                told.rules.add(r);
                mustBeStop(token());
            } else {
                throw new Fault(2, tokenAt);
            }
        }
        for (int p = told.people.size(); p < 6; p++) {
            if (named[p]) {
                throw new Fault(6, source.length());
            }
        }
        TreeSet<Integer> ranks = new TreeSet<>();
        for (Rule r : told.rules) {
            if (!ranks.add(10 * r.rank + r.thing)) {
                throw new Fault(7, source.length());
            }
        }
        return lines;
    }

    int fault() {
        return textFault;
    }

    // ---- what there is

    private boolean noOne(int p) {
        return p < 0 || p >= world.people.size();
    }

    private boolean noThing(int t) {
        return t < 0 || t > 3;
    }

    private boolean noFact(int f) {
        return f < 0 || f > 4;
    }

    private boolean noRule(int k) {
        return k < 0 || k >= world.rules.size();
    }

    private static int bits(Iterable<Integer> set) {
        int bits = 0;
        for (int i : set) {
            bits |= 1 << i;
        }
        return bits;
    }

    int rule(int what) {
        return what == 0 ? world.people.size() : what == 1 ? world.rules.size()
            : what == 2 ? world.gone() : BAD;
    }

    int one(int p, int what) {
        if (noOne(p) || what < 0 || what > 5) {
            return BAD;
        }
        Person x = world.people.get(p);
        int[] answers = {x.parent == null ? NONE : world.people.indexOf(x.parent), bits(x.facts),
            x.tries, x.gone ? 1 : 0, world.born(x), world.children(x)};
        return answers[what];
    }

    int odd(int f) {
        return noFact(f) ? BAD : world.odds[f];
    }

    int law(int k, int what) {
        if (noRule(k) || what < 0 || what > 6) {
            return BAD;
        }
        Rule r = world.rules.get(k);
        int meeting = 0;
        for (int p = 0; p < world.people.size(); p++) {
            meeting += world.meets(world.people.get(p), r) ? 1 << p : 0;
        }
        int[] answers = {r.rank, r.thing, CLAIMS.indexOf(r.claim), r.number,
            PICKS.indexOf(r.pick), meeting, world.gives(r)};
        return answers[what];
    }

    int owner(int t) {
        return noThing(t) ? BAD : world.owner(t);
    }

    int by(int t) {
        return noThing(t) ? BAD : world.by(t);
    }

    // ---- what is changed

    int does(int deed) {
        return world.does(deed);
    }

    int comes(int p) {
        if (noOne(p)) {
            return BAD;
        }
        int was = world.people.get(p).gone ? 1 : 0;
        world.people.get(p).gone = false;
        return was;
    }

    int tries(int p, int n) {
        if (noOne(p) || n < 0 || n > 3) {
            return BAD;
        }
        int were = world.people.get(p).tries;
        world.people.get(p).tries = n;
        return were;
    }

    int hush(int p, int f) {
        if (noOne(p) || noFact(f)) {
            return BAD;
        }
        return world.people.get(p).facts.remove(f) ? 1 : 0;
    }

    int weigh(int f, int v) {
        if (noFact(f) || v < 0 || v > 10) {
            return BAD;
        }
        int were = world.odds[f];
        world.odds[f] = v;
        return were;
    }

    int rank(int k, int r) {
        if (noRule(k) || r < 1 || r > 9) {
            return BAD;
        }
        Rule mine = world.rules.get(k);
        for (Rule other : world.rules) {
            if (other != mine && other.thing == mine.thing && other.rank == r) {
                return STATE;
            }
        }
        int was = mine.rank;
        mine.rank = r;
        return was;
    }

    int pick(int k, int v) {
        if (noRule(k) || v < 0 || v > 2) {
            return BAD;
        }
        int was = PICKS.indexOf(world.rules.get(k).pick);
        world.rules.get(k).pick = PICKS.get(v);
        return was;
    }

    // ---- deeds

    int claim(int p, int t, int n, int what) {
        if (noOne(p) || noThing(t) || n < 0 || n > 3) {
            return BAD;
        }
        if (what != 0 && (what < 10 || what >= 10 + n)) {
            return BAD;
        }
        for (int length = 0; length <= n; length++) {
            List<Integer> row = firstRow(world, p, t, length);
            if (row != null) {
                return what == 0 ? length : what - 10 < length ? row.get(what - 10) : NONE;
            }
        }
        return NONE;
    }

    private static List<Integer> firstRow(World w, int p, int t, int length) {
        if (length == 0) {
            return w.owner(t) == p ? new ArrayList<>() : null;
        }
        for (int deed = 0; deed < 60; deed++) {
            World next = w.copy();
            if (next.does(deed) < 0) {
                continue;
            }
            List<Integer> rest = firstRow(next, p, t, length - 1);
            if (rest != null) {
                rest.add(0, deed);
                return rest;
            }
        }
        return null;
    }

    int pivot(int t) {
        if (noThing(t)) {
            return BAD;
        }
        int bits = 0;
        for (int p = 0; p < world.people.size(); p++) {
            World w = world.copy();
            if (!w.people.get(p).gone) {
                w.people.get(p).gone = true;
                bits += w.owner(t) != world.owner(t) ? 1 << p : 0;
            }
        }
        return bits;
    }

    int spoils(int p) {
        if (noOne(p)) {
            return BAD;
        }
        int bits = 0;
        for (int t = 0; t < 4; t++) {
            for (int kind = 0; kind <= 5; kind++) {
                World w = world.copy();
                if (w.owner(t) == p && w.does(10 * p + kind) >= 0 && w.owner(t) != p) {
                    bits |= 1 << t;
                }
            }
        }
        return bits;
    }

    // ---- all cases

    private List<World> cases() {
        List<World> all = new ArrayList<>();
        for (int absent = 0; absent < 1 << world.people.size(); absent++) {
            all.add(world.inCase(absent));
        }
        return all;
    }

    int dead(int what) {
        if (what < 0 || what > 2) {
            return BAD;
        }
        int bits = 0;
        for (int k = 0; k < world.rules.size(); k++) {
            boolean holds = true;
            for (World w : cases()) {
                boolean gives = w.gives(w.rules.get(k)) != NONE;
                if (what == 0) {
                    holds &= !gives;
                } else if (what == 1) {
                    holds &= gives || w.gone() == (1 << w.people.size()) - 1;
                } else {
                    for (int t = 0; t < 4; t++) {
                        holds &= w.by(t) != k;
                    }
                }
            }
            bits |= holds ? 1 << k : 0;
        }
        return bits;
    }

    int least(int what) {
        if (what < 0 || what > 1) {
            return BAD;
        }
        int rules = world.rules.size();
        for (int size = 0; size <= rules; size++) {
            for (int set = 0; set < 1 << rules; set++) {
                if (Integer.bitCount(set) == size && same(set)) {
                    return what == 0 ? size : set;
                }
            }
        }
        throw new IllegalStateException();
    }

    private boolean same(int set) {
        for (World w : cases()) {
            World fewer = w.withRules(set);
            for (int t = 0; t < 4; t++) {
                if (fewer.owner(t) != w.owner(t)) {
                    return false;
                }
            }
        }
        return true;
    }

    int who(int t) {
        if (noThing(t)) {
            return BAD;
        }
        TreeSet<Integer> owners = new TreeSet<>();
        for (World w : cases()) {
            owners.add(w.owner(t));
        }
        owners.remove(NONE);
        return bits(owners);
    }

    int via(int p, int t) {
        if (noOne(p) || noThing(t)) {
            return BAD;
        }
        TreeSet<Integer> by = new TreeSet<>();
        for (World w : cases()) {
            if (w.owner(t) == p) {
                by.add(w.by(t));
            }
        }
        return bits(by);
    }

    long odds(int v, int p, int t, int what) {
        if (v < 0 || v > 10 || noOne(p) || noThing(t) || what < 0 || what > 1) {
            return BAD;
        }
        return part(goingFrom(world, 0, v, p, t), tenTo(world.people.size()), what);
    }

    private static long goingFrom(World w, int next, int v, int p, int t) {
        if (next == w.people.size()) {
            return w.owner(t) == p ? 1 : 0;
        }
        if (w.people.get(next).gone) {
            return 10 * goingFrom(w, next + 1, v, p, t);
        }
        World less = w.copy();
        less.people.get(next).gone = true;
        return v * goingFrom(less, next + 1, v, p, t)
            + (10 - v) * goingFrom(w, next + 1, v, p, t);
    }

    private static long tenTo(int n) {
        return n == 0 ? 1 : 10 * tenTo(n - 1);
    }

    private static long part(long above, long below, int what) {
        for (long d = below; d > 1; d--) {
            if (above % d == 0 && below % d == 0) {
                above /= d;
                below /= d;
            }
        }
        return what == 0 ? above : below;
    }

    int turn(int v, int t) {
        if (v < 0 || v > 2 || noThing(t)) {
            return BAD;
        }
        World w = world.copy();
        for (Rule r : w.rules) {
            r.pick = PICKS.get(v);
        }
        return w.owner(t);
    }

    // ---- trying

    long best(int p, int t, int n, int what) {
        if (noOne(p) || noThing(t) || n < 0 || n > 3 || what < 0 || what > 2) {
            return BAD;
        }
        long[] found = bestOf(world, p, t, n);
        return what == 2 ? found[1] : part(found[0], tenTo(n), what);
    }

    /** How likely, of ten to the power of n; the fact to try for. */
    private static long[] bestOf(World w, int p, int t, int n) {
        long[] found = {w.owner(t) == p ? tenTo(n) : 0, 5};
        if (n == 0 || w.people.get(p).tries == 3) {
            return found;
        }
        for (int f = 4; f >= 0; f--) {
            if (w.people.get(p).facts.contains(f)) {
                continue;
            }
            World fails = w.copy();
            fails.people.get(p).tries++;
            World knows = fails.copy();
            knows.people.get(p).facts.add(f);
            long ways = w.odds[f] * bestOf(knows, p, t, n - 1)[0]
                + (10 - w.odds[f]) * bestOf(fails, p, t, n - 1)[0];
            if (ways > found[0] || ways == found[0] && found[1] != 5) {
                found = new long[] {ways, f};
            }
        }
        return found;
    }

    // ---- seen

    int see(int t, int p) {
        if (noThing(t) || p != NONE && noOne(p)) {
            return BAD;
        }
        if (seen.size() == 6) {
            return FULL;
        }
        seen.add(new int[] {t, p});
        return seen.size();
    }

    int forget(int n) {
        if (n < 0 || n > seen.size()) {
            return BAD;
        }
        int were = seen.size();
        while (seen.size() > n) {
            seen.remove(n);
        }
        return were;
    }

    int fits(int what) {
        if (what < 0 || what > 3) {
            return BAD;
        }
        List<Integer> fitting = new ArrayList<>();
        for (World w : cases()) {
            boolean fits = true;
            for (int[] s : seen) {
                fits &= w.owner(s[0]) == s[1];
            }
            if (fits) {
                fitting.add(w.gone());
            }
        }
        if (what == 0) {
            return fitting.size();
        }
        if (fitting.isEmpty()) {
            return NONE;
        }
        if (what == 1) {
            return fitting.stream().min(Integer::compare).get();
        }
        int bits = 0;
        for (int p = 0; p < world.people.size(); p++) {
            int q = p;
            boolean holds = fitting.stream().allMatch(c -> (c >> q & 1) == (what == 2 ? 1 : 0));
            bits += holds ? 1 << p : 0;
        }
        return bits;
    }

    // ---- by a seed

    int drift(int seed, int n, int what) {
        if (n < 1 || n > 60 || what < 0 || what > 1) {
            return BAD;
        }
        if (world.people.isEmpty()) {
            return STATE;
        }
        World w = world.copy();
        int changes = 0;
        for (int i = 0; i < n; i++) {
            int before = w.owner(0);
            seed = (int) ((seed * 1103515245L + 12345L) & 0xffffffffL);
            int p = (int) ((seed & 0xffffffffL) / 65536 % 32768) % w.people.size();
            seed = (int) ((seed * 1103515245L + 12345L) & 0xffffffffL);
            int kind = (int) ((seed & 0xffffffffL) / 65536 % 32768) % 7;
            w.does(10 * p + kind);
            if (w.people.stream().allMatch(q -> q.gone)) {
                w.people.forEach(q -> q.gone = false);
            }
            changes += w.owner(0) == before ? 0 : 1;
        }
        return what == 0 ? changes : w.owner(0);
    }

    // ---- images, sheets

    int keep(int k) {
        if (k < 0 || k > 1) {
            return BAD;
        }
        int was = images[k] == null ? 0 : 1;
        images[k] = world.copy();
        return was;
    }

    int back(int k) {
        if (k < 0 || k > 1) {
            return BAD;
        }
        if (images[k] == null) {
            return STATE;
        }
        world = images[k].copy();
        return world.gone();
    }

    int sheet(int k, int lane, int n) {
        if (k < 0 || k > 3 || lane < 0 || lane > 2 || n > 40) {
            return BAD;
        }
        try {
            sheets[k] = lane == 0 ? new byte[n] : lane == 1 ? new short[n] : new int[n];
            return 1;
        } catch (NegativeArraySizeException e) {
            return -14;
        }
    }

    int lay(int k, int i, int v) {
        if (k < 0 || k > 3) {
            return BAD;
        }
        try {
            if (sheets[k] instanceof byte[]) {
                ((byte[]) sheets[k])[i] = (byte) v;
            } else if (sheets[k] instanceof short[]) {
                ((short[]) sheets[k])[i] = (short) v;
            } else {
                ((int[]) sheets[k])[i] = v;
            }
            return 1;
        } catch (NullPointerException e) {
            return -11;
        } catch (ArrayIndexOutOfBoundsException e) {
            return -12;
        }
    }

    /** Lets the machine find its faults, as the document has it. */
    int read(int k, int lane, int f, int n) {
        if (k < 0 || k > 3 || lane < 0 || lane > 2 || n < 0 || n > 20) {
            return BAD;
        }
        World ahead = world.copy();
        int done = 0;
        try {
            while (done < n) {
                int deed = lane == 0 ? ((byte[]) sheets[k])[f + done]
                    : lane == 1 ? ((short[]) sheets[k])[f + done]
                    : ((int[]) sheets[k])[f + done];
                if (world.does(deed) < 0) {
                    world = ahead;
                    return -20 - done;
                }
                done++;
            }
            readFault = 0;
        } catch (NullPointerException e) {
            readFault = 1;
        } catch (ArrayIndexOutOfBoundsException e) {
            readFault = 2;
        } catch (ClassCastException e) {
            readFault = 3;
        }
        return done;
    }

    int torn() {
        return readFault;
    }

    int count(int what) {
        switch (what) {
            case 0:
                return seen.size();
            case 1:
                return (images[0] == null ? 0 : 1) + (images[1] == null ? 0 : 1);
            case 2:
                return tape.length();
            case 3:
                return sheets[0] == null ? NONE : java.lang.reflect.Array.getLength(sheets[0]);
            case 4:
                int owned = 0;
                for (int t = 0; t < 4; t++) {
                    owned += owner(t) == NONE ? 0 : 1;
                }
                return owned;
            case 5:
                return world.people.stream().mapToInt(p -> p.facts.size()).sum();
            case 6:
                return world.people.stream().mapToInt(p -> p.tries).sum();
            default:
                return BAD;
        }
    }
}
