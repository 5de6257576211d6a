import java.util.ArrayList;
import java.util.List;

/**
 * Shows that a call changes nothing: of two objects with one past the first alone is asked, then
 * all that can be seen of both is the same. Past, call and look stay under 512 calls.
 */
final class Twins {
    interface Ask {
        long of(ThirdSon x);
    }

    interface Past {
        void of(ThirdSon x);
    }

    /** Of 0: 1, 2; of 1: 3. */
    private static final String TOLD = "one;one0;one0;one1;fact0 1;gone1;rule3 0fact1last;"
        + "rule5 0any0first;rule1 1tried2third;";
    private static final int[] LANES = {1, 0, 2, 0};

    private Twins() {
    }

    /**
     * An object that has something of everything. PEOPLE 0 to 3: 1 is GONE, FACT 1 is known of 0
     * and 3, 2 has 3 TRIES. RULES 0 to 2, of RANKS 9 and 5 for THING 0, 1 for THING 1. Two are
     * SEEN, both IMAGES are there, each unlike the other and what is. SHEETS: 3 SHORTS, 2 BYTES,
     * no INTS, nothing. torn() tells CAST, fault() tells 1, THE TAPE has 10 bytes.
     */
    static ThirdSon duchy() {
        ThirdSon x = Check.told(TOLD);
        x.tries(2, 3);
        x.tries(1, 2);
        x.keep(0);
        x.does(31);
        x.comes(1);
        x.does(36);
        x.weigh(0, 9);
        x.rank(0, 9);
        x.pick(1, 2);
        x.keep(1);
        x.comes(3);
        x.does(16);
        x.weigh(4, 0);
        x.see(0, 0);
        x.see(1, -4);
        layDeeds(x);
        x.feed('?');
        x.text();
        Check.write(x, "one;one 0;");
        return x;
    }

    private static void layDeeds(ThirdSon x) {
        x.sheet(0, 1, 3);
        x.lay(0, 0, 30);
        x.lay(0, 1, 2);
        x.lay(0, 2, 34);
        x.sheet(1, 0, 2);
        x.lay(1, 0, 33);
        x.lay(1, 1, 3);
        x.sheet(2, 2, 0);
        x.read(0, 2, 0, 1);
    }

    static void unchanged(String call, Ask ask, long want) {
        unchanged(call, x -> { }, ask, want);
    }

    /** The past is what both go through behind duchy(). */
    static void unchanged(String call, Past past, Ask ask, long want) {
        ThirdSon asked = duchy();
        ThirdSon other = duchy();
        past.of(asked);
        past.of(other);
        Check.due(call, ask.of(asked), want);
        same(call, look(asked), look(other));
    }

    static void bad(String call, Ask ask) {
        unchanged(call, ask, -1);
    }

    static void same(String call, List<String> found, List<String> want) {
        for (int i = 0; i < want.size(); i++) {
            boolean equal = i < found.size() && found.get(i).equals(want.get(i));
            Check.due(call + " leaves " + want.get(i), equal ? 1 : 0, 1);
        }
    }

    /** All that can be seen; the object is of no more use then. What fault() tells comes first. */
    static List<String> look(ThirdSon x) {
        List<String> found = new ArrayList<>();
        found.add("fault() " + x.fault());
        found.add("torn() " + x.torn());
        for (int what = 0; what <= 6; what++) {
            found.add("count(" + what + ") " + x.count(what));
        }
        lookAtWhatIsTold(x, found);
        lookAtWhatChanges(x, "", found);
        lookAtSeen(x, found);
        for (int k = 0; k < 2; k++) {
            found.add("back(" + k + ") " + x.back(k));
            lookAtWhatChanges(x, " behind back(" + k + ")", found);
        }
        lookAtSheets(x, found);
        found.add("text() " + x.text());
        found.add("fault() behind it " + x.fault());
        found.add("PEOPLE behind it " + x.rule(0));
        found.add("RULES behind it " + x.rule(1));
        return found;
    }

    private static void lookAtWhatIsTold(ThirdSon x, List<String> found) {
        found.add("PEOPLE " + x.rule(0));
        found.add("RULES " + x.rule(1));
        for (int p = 0; p < 4; p++) {
            found.add("PARENT of " + p + " " + x.one(p, 0));
        }
        for (int k = 0; k < 3; k++) {
            found.add("RULE " + k + " " + x.law(k, 1) + " " + x.law(k, 2) + " " + x.law(k, 3));
        }
    }

    private static void lookAtWhatChanges(ThirdSon x, String when, List<String> found) {
        found.add("GONE" + when + " " + x.rule(2));
        for (int p = 0; p < 4; p++) {
            found.add("FACTS of " + p + when + " " + x.one(p, 1));
            found.add("TRIES of " + p + when + " " + x.one(p, 2));
        }
        for (int f = 0; f < 5; f++) {
            found.add("ODDS of " + f + when + " " + x.odd(f));
        }
        for (int k = 0; k < 3; k++) {
            found.add("RULE " + k + when + " " + x.law(k, 0) + " " + x.law(k, 4));
        }
    }

    private static void lookAtSeen(ThirdSon x, List<String> found) {
        for (int n = x.count(0); n > 0; n--) {
            found.add("CASES that fit " + n + " SEEN " + x.fits(0) + " " + x.fits(3));
            x.forget(n - 1);
        }
    }

    private static void lookAtSheets(ThirdSon x, List<String> found) {
        for (int p = 0; p < 4; p++) {
            x.comes(p);
            x.tries(p, 0);
        }
        for (int k = 0; k < 4; k++) {
            for (int i = 0; i < 4; i++) {
                found.add("CELL " + i + " of SHEET " + k + " " + x.read(k, LANES[k], i, 1) + " "
                    + x.torn() + " " + x.one(0, 1) + " " + x.one(3, 1));
            }
        }
    }
}
