/** Promise 37: n DEEDS are read of a SHEET as of a lane, from CELL f on; FAULTS, BAD, -20 less i. */
public final class Promise37ReadTest {
    private static final String SIX = "one;one;one;one;one;one;";

    private Promise37ReadTest() {
    }

    public static void main(String[] args) {
        fromNoneToTwenty();
        fromTheCellOn();
        oneBehindAnother();
        noDeeds();
        nothing();
        anotherLane();
        outOfTheRow();
        thoseAheadWereDone();
        refusedInEachWay();
        refusedBehindOthers();
        theFirstMet();
        refusedLeavesAll();
        bad();
        Check.close("Promise37ReadTest");
    }

    private static void lay(ThirdSon x, int k, int lane, int... deeds) {
        x.sheet(k, lane, deeds.length);
        for (int i = 0; i < deeds.length; i++) {
            x.lay(k, i, deeds[i]);
        }
    }

    private static ThirdSon withDeeds(int lane, int... deeds) {
        ThirdSon x = Check.told(SIX);
        lay(x, 1, lane, deeds);
        return x;
    }

    /** Twenty-four deeds that can be done: each tries for two FACTS, fails, goes. */
    private static int[] twentyFour() {
        int[] deeds = new int[24];
        for (int i = 0; i < 24; i++) {
            int p = i / 4;
            deeds[i] = 10 * p + new int[] {0, 4, 5, 6}[i % 4];
        }
        return deeds;
    }

    private static void fromNoneToTwenty() {
        for (int lane = 0; lane < 3; lane++) {
            for (int n = 0; n <= 20; n++) {
                ThirdSon x = withDeeds(lane, twentyFour());
                Check.due("read(1, " + lane + ", 0, " + n + ")", x.read(1, lane, 0, n), n);
                Check.due("torn()", x.torn(), 0);
                Check.due("TRIES behind " + n, x.count(6), n / 4 * 3 + n % 4);
                Check.due("FACTS behind " + n, x.count(5), n / 4 * 2 + Math.min(n % 4, 2));
                Check.due("GONE behind " + n, x.rule(2), (1 << n / 4) - 1);
            }
            ThirdSon y = withDeeds(lane, twentyFour());
            Check.due("read(1, " + lane + ", 0, 21)", y.read(1, lane, 0, 21), -1);
            Check.due("none was done", y.count(6), 0);
        }
    }

    private static void fromTheCellOn() {
        for (int f = 0; f < 24; f++) {
            ThirdSon x = withDeeds(0, twentyFour());
            Check.due("read(1, 0, " + f + ", 1)", x.read(1, 0, f, 1), 1);
            int kind = f % 4;
            Check.due("TRIES by CELL " + f, x.one(f / 4, 2), kind == 3 ? 0 : 1);
            Check.due("FACTS by CELL " + f, x.one(f / 4, 1), kind == 0 ? 1 : kind == 1 ? 16 : 0);
            Check.due("GONE by CELL " + f, x.rule(2), kind == 3 ? 1 << f / 4 : 0);
        }
        ThirdSon forty = Check.told("one;");
        forty.sheet(3, 2, 40);
        Check.due("the last of forty", forty.read(3, 2, 39, 1), 1);
        Check.due("torn()", forty.torn(), 0);
        Check.due("FACT 0", forty.one(0, 1), 1);
    }

    private static void oneBehindAnother() {
        // he goes behind his deeds; the same row the other way round can't be done
        ThirdSon x = withDeeds(0, 5, 6);
        Check.due("he fails, then he goes", x.read(1, 0, 0, 2), 2);
        ThirdSon y = withDeeds(0, 6, 5);
        Check.due("he goes, then he fails", y.read(1, 0, 0, 2), -21);
        // the SHEET stays as it is
        ThirdSon z = withDeeds(0, 5, 15);
        for (int i = 1; i <= 3; i++) {
            Check.due("the same row, " + i, z.read(1, 0, 0, 2), 2);
            Check.due("TRIES", z.count(6), 2 * i);
        }
        Check.due("the same row, 4", z.read(1, 0, 0, 2), -20);
    }

    /** Of n 0: 0, no FAULT, whatever the SHEET is. */
    private static void noDeeds() {
        int[][] of = {{0, 1, 0}, {0, 2, 0}, {0, 1, -1}, {0, 1, 3}, {0, 1, 99}, {1, 0, 2}, {1, 2, 0},
            {2, 2, 0}, {2, 0, 5}, {3, 0, 0}, {3, 1, 7}, {3, 2, -1}, {0, 1, Integer.MIN_VALUE},
            {0, 0, Integer.MAX_VALUE}};
        for (int[] o : of) {
            String call = "read(" + o[0] + ", " + o[1] + ", " + o[2] + ", 0)";
            ThirdSon x = Twins.duchy();
            Check.due("torn() ahead of " + call, x.torn(), 3);
            Check.due(call, x.read(o[0], o[1], o[2], 0), 0);
            Check.due("torn() behind " + call, x.torn(), 0);
            Twins.unchanged(call, y -> y.read(0, 1, 0, 0), y -> y.read(o[0], o[1], o[2], 0), 0);
        }
    }

    private static void faultOf(String why, int k, int lane, int f, int n, int fault) {
        String call = "read(" + k + ", " + lane + ", " + f + ", " + n + "), " + why;
        ThirdSon x = Twins.duchy();
        x.read(0, 1, 0, 0);
        Check.due(call, x.read(k, lane, f, n), 0);
        Check.due("torn() behind " + call, x.torn(), fault);
        // nothing but torn() is changed
        Twins.unchanged(call, y -> y.read(k, lane, f, n), y -> y.read(k, lane, f, n), 0);
        ThirdSon asked = Twins.duchy();
        asked.read(k, lane, f, n);
        asked.read(0, 1, 0, 0);
        ThirdSon other = Twins.duchy();
        other.read(0, 1, 0, 0);
        Twins.same(call, Twins.look(asked), Twins.look(other));
    }

    private static void nothing() {
        for (int lane = 0; lane < 3; lane++) {
            faultOf("nothing", 3, lane, 0, 1, 1);
            faultOf("nothing", 3, lane, -1, 20, 1);
            faultOf("nothing", 3, lane, Integer.MAX_VALUE, 1, 1);
        }
        for (int k = 0; k < 4; k++) {
            ThirdSon x = new ThirdSon();
            x.sheet(k, 0, -1);
            Check.due("SHEET " + k + " behind a SIZE below 0", x.read(k, 0, 0, 1), 0);
            Check.due("torn()", x.torn(), 1);
        }
    }

    private static void anotherLane() {
        int[] lanes = {1, 0, 2};
        for (int k = 0; k < 3; k++) {
            for (int lane = 0; lane < 3; lane++) {
                if (lane != lanes[k]) {
                    faultOf("another lane", k, lane, 0, 1, 3);
                    faultOf("another lane, out of the row", k, lane, -1, 20, 3);
                    faultOf("another lane, out of the row", k, lane, 40, 1, 3);
                }
            }
        }
    }

    private static void outOfTheRow() {
        int[] lanes = {1, 0, 2};
        int[] sizes = {3, 2, 0};
        for (int k = 0; k < 3; k++) {
            for (int f : new int[] {-1, -2, sizes[k], sizes[k] + 1, 39, 40, 41, Integer.MIN_VALUE,
                Integer.MIN_VALUE + 1, Integer.MAX_VALUE - 1, Integer.MAX_VALUE}) {
                faultOf("out of the row", k, lanes[k], f, 1, 2);
                faultOf("out of the row", k, lanes[k], f, 20, 2);
            }
        }
    }

    private static void thoseAheadWereDone() {
        int[] deeds = {5, 14, 26, 30};
        for (int f = 0; f < 4; f++) {
            for (int n = 5 - f; n <= 20; n += 5) {
                ThirdSon x = withDeeds(1, deeds);
                Check.due("read(1, 1, " + f + ", " + n + "): those ahead", x.read(1, 1, f, n), 4 - f);
                Check.due("torn(): INDEX", x.torn(), 2);
                Check.due("TRIES of 0", x.one(0, 2), f == 0 ? 1 : 0);
                Check.due("FACTS of 1", x.one(1, 1), f <= 1 ? 16 : 0);
                Check.due("GONE", x.rule(2), f <= 2 ? 4 : 0);
                Check.due("FACTS of 3", x.one(3, 1), 1);
            }
            ThirdSon y = withDeeds(1, deeds);
            Check.due("just to the end", y.read(1, 1, f, 4 - f), 4 - f);
            Check.due("torn(): none", y.torn(), 0);
        }
    }

    private static void refusedInEachWay() {
        int[] none = {7, 8, 9, 17, 59, 60, 66, 100, 127, -1, -6, -10, -128};
        for (int deed : none) {
            ThirdSon x = withDeeds(0, deed);
            Check.due("no such DEED or ONE: " + deed, x.read(1, 0, 0, 1), -20);
        }
        for (int kind = 0; kind <= 6; kind++) {
            ThirdSon gone = withDeeds(2, 50 + kind);
            gone.does(56);
            Check.due("he is GONE: " + (50 + kind), gone.read(1, 2, 0, 1), -20);
            ThirdSon tired = withDeeds(2, 50 + kind);
            tired.tries(5, 3);
            Check.due("3 TRIES: " + (50 + kind), tired.read(1, 2, 0, 1), kind == 6 ? 1 : -20);
            if (kind <= 4) {
                ThirdSon known = withDeeds(2, 50 + kind);
                known.does(50 + kind);
                Check.due("known: " + (50 + kind), known.read(1, 2, 0, 1), -20);
            }
        }
        ThirdSon nobody = new ThirdSon();
        nobody.sheet(0, 0, 1);
        Check.due("nobody there", nobody.read(0, 0, 0, 1), -20);
    }

    /** By those ahead of it, in the same read(): then none was done. */
    private static void refusedBehindOthers() {
        int[][] rows = {{0, 10, 0}, {16, 5, 16}, {5, 5, 5, 5}, {1, 5, 2, 3}, {5, 5, 5, 6, 6}, {56, 50},
            {54, 55, 55, 50}};
        for (int[] row : rows) {
            for (int lane = 0; lane < 3; lane++) {
                ThirdSon x = withDeeds(lane, row);
                int last = row.length - 1;
                Check.due("refused by those ahead", x.read(1, lane, 0, row.length), -20 - last);
                Check.due("none was done: TRIES", x.count(6), 0);
                Check.due("none was done: FACTS", x.count(5), 0);
                Check.due("none was done: GONE", x.rule(2), 0);
                Check.due("those ahead alone", x.read(1, lane, 0, last), last);
            }
        }
        int[] deeds = twentyFour();
        for (int i = 0; i < 20; i++) {
            ThirdSon x = withDeeds(0, deeds);
            x.lay(1, i, 99);
            Check.due("DEED " + i + " of 20", x.read(1, 0, 0, 20), -20 - i);
            Check.due("none was done: TRIES", x.count(6), 0);
            Check.due("none was done: GONE", x.rule(2), 0);
        }
    }

    private static void theFirstMet() {
        ThirdSon x = withDeeds(0, 5, 7, 99, 15);
        Check.due("of two that are refused", x.read(1, 0, 0, 4), -21);
        Check.due("counted from f on", x.read(1, 0, 1, 2), -20);
        Check.due("refused ahead of INDEX", x.read(1, 0, 2, 20), -20);
        Check.due("torn() is left", x.torn(), 0);
        Check.due("none was done", x.count(6), 0);
        Check.due("INDEX ahead of what would be refused", x.read(1, 0, -1, 20), 0);
        Check.due("torn(): INDEX", x.torn(), 2);
        Check.due("CAST ahead of what would be refused", x.read(1, 1, 1, 1), 0);
        Check.due("torn(): CAST", x.torn(), 3);
    }

    private static void refusedLeavesAll() {
        int[][] rows = {{7}, {5, 7}, {3, 36, 5, 36}, {5, 4, 35, 26, 99}, {5, 3, 4, 5}};
        for (int[] row : rows) {
            int last = row.length - 1;
            Twins.unchanged("read(1, 0, 0, " + row.length + ") that is refused",
                x -> lay(x, 1, 0, row), x -> x.read(1, 0, 0, row.length), -20 - last);
        }
    }

    private static void bad() {
        int[][] bad = {{-1, 1, 0, 1}, {4, 1, 0, 1}, {0, -1, 0, 1}, {0, 3, 0, 1}, {0, 1, 0, -1},
            {0, 1, 0, 21}, {1, 0, 0, 21}, {-1, 1, 0, 0}, {4, 1, 0, 0}, {0, -1, 0, 0}, {0, 3, 0, 0},
            {3, 3, 0, 1}, {3, 0, 0, 21}, {3, 0, 0, -1}, {0, 2, 0, 21}, {0, 1, 99, 21}, {0, 1, -1, -1},
            {Integer.MIN_VALUE, 1, 0, 1}, {Integer.MAX_VALUE, 1, 0, 1}, {0, Integer.MIN_VALUE, 0, 1},
            {0, Integer.MAX_VALUE, 0, 1}, {0, 1, 0, Integer.MIN_VALUE}, {0, 1, 0, Integer.MAX_VALUE}};
        for (int[] b : bad) {
            Twins.bad("read(" + b[0] + ", " + b[1] + ", " + b[2] + ", " + b[3] + ")",
                x -> x.read(b[0], b[1], b[2], b[3]));
        }
    }
}
