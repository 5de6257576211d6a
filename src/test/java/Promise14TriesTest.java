/** Promise 14: TRIES of a ONE become n (0 to 3): what they were; BAD. */
public final class Promise14TriesTest {
    private Promise14TriesTest() {
    }

    public static void main(String[] args) {
        fromEachToEach();
        ofOneWhoIsGone();
        bad();
        Check.close("Promise14TriesTest");
    }

    private static void fromEachToEach() {
        ThirdSon x = Check.told("one;one;");
        for (int from = 0; from <= 3; from++) {
            for (int to = 0; to <= 3; to++) {
                x.tries(0, from);
                Check.due("tries(0, " + to + ")", x.tries(0, to), from);
                Check.due("TRIES of 0", x.one(0, 2), to);
                Check.due("TRIES of 1", x.one(1, 2), 0);
            }
        }
        Check.due("FACTS", x.count(5), 0);
    }

    private static void ofOneWhoIsGone() {
        ThirdSon x = Twins.duchy();
        Check.due("tries(1, 3)", x.tries(1, 3), 2);
        Check.due("TRIES of 1", x.one(1, 2), 3);
        Check.due("he is GONE still", x.rule(2), 2);
        Twins.unchanged("tries(1, 2), as they were", y -> y.tries(1, 2), 2);
    }

    private static void bad() {
        int[][] bad = {{0, -1}, {0, 4}, {3, 4}, {-1, 0}, {4, 0}, {5, 1}, {6, 1}, {-1, 4},
            {Integer.MIN_VALUE, 1}, {Integer.MAX_VALUE, 1}, {2, Integer.MIN_VALUE},
            {2, Integer.MAX_VALUE}};
        for (int[] b : bad) {
            Twins.bad("tries(" + b[0] + ", " + b[1] + ")", x -> x.tries(b[0], b[1]));
        }
    }
}
