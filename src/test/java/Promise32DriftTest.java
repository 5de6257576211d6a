/** Promise 32: n DEEDS by a seed, by itself: how often THE OWNER changes, who it is; BAD; STATE. */
public final class Promise32DriftTest {
    private static final int[] SEEDS = {0, 1, -1, 2, 7, 99, 12345, -54321, 65536, 1 << 30,
        Integer.MIN_VALUE, Integer.MAX_VALUE};

    private Promise32DriftTest() {
    }

    public static void main(String[] args) {
        asByDoesAndComes();
        stepByStep();
        allComeBack();
        thing0Alone();
        nobodyThere();
        bad();
        Check.close("Promise32DriftTest");
    }

    /** The same DEEDS done in earnest. */
    private static void asByDoesAndComes() {
        String[] duchies = {"one;one;rule 1 0 tried 1 last;", "one;one;one;rule 1 0 any 0 first;",
            "one;one;one;one;one;one;rule 1 0 any 0 third;rule 1 1 any 0 last;",
            "one;one 0;one 0;one 0;one;rule 1 0 born 3 first;rule 2 0 fact 1 last;",
            "one;one 0;rule 1 0 kin 0 last;gone 0;", "one;rule 1 0 tried 3 last;fact 0 4;"};
        for (String text : duchies) {
            for (int seed : SEEDS) {
                compare(text, seed);
            }
        }
    }

    private static void compare(String text, int seed) {
        int people = Check.told(text).rule(0);
        ThirdSon earnest = Check.told(text);
        long s = seed & 0xffffffffL;
        int owner = earnest.owner(0);
        int changes = 0;
        for (int n = 1; n <= 60; n++) {
            s = (s * 1103515245L + 12345L) & 0xffffffffL;
            int p = (int) (s / 65536 % 32768 % people);
            s = (s * 1103515245L + 12345L) & 0xffffffffL;
            earnest.does(10 * p + (int) (s / 65536 % 32768 % 7));
            if (earnest.rule(2) == (1 << people) - 1) {
                for (int q = 0; q < people; q++) {
                    earnest.comes(q);
                }
            }
            int now = earnest.owner(0);
            changes += now == owner ? 0 : 1;
            owner = now;
            if (n == 1 || n == 2 || n == 17 || n == 59 || n == 60) {
                String call = text + ": drift(" + seed + ", " + n + ", ";
                ThirdSon x = Check.told(text);
                Check.due(call + "0)", x.drift(seed, n, 0), changes);
                Check.due(call + "1)", x.drift(seed, n, 1), owner);
                Check.due("nothing is changed: GONE", x.rule(2), Check.told(text).rule(2));
                Check.due("nothing is changed: TRIES", x.count(6), 0);
            }
        }
    }

    /**
     * From the seed 1 the first four draws are 16838, 5758, 10113, 17515: of two people it is 0 by
     * the first, DEED 4 by the second; 1 by the third, DEED 1 by the fourth.
     */
    private static void stepByStep() {
        ThirdSon x = Check.told("one;one;rule 1 0 fact 1 last;rule 2 0 fact 4 last;");
        Check.due("drift(1, 1, 0)", x.drift(1, 1, 0), 1);
        Check.due("drift(1, 1, 1)", x.drift(1, 1, 1), 0);
        Check.due("drift(1, 2, 0)", x.drift(1, 2, 0), 2);
        Check.due("drift(1, 2, 1)", x.drift(1, 2, 1), 1);
        x.does(4);
        Check.due("known already: drift(1, 1, 0)", x.drift(1, 1, 0), 0);
        Check.due("known already: drift(1, 1, 1)", x.drift(1, 1, 1), 0);
        x.tries(1, 3);
        Check.due("3 TRIES: drift(1, 2, 0)", x.drift(1, 2, 0), 0);
        Check.due("3 TRIES: drift(1, 2, 1)", x.drift(1, 2, 1), 0);
        x.tries(1, 0);
        x.does(16);
        Check.due("GONE: drift(1, 2, 0)", x.drift(1, 2, 0), 0);
        Check.due("GONE: drift(1, 2, 1)", x.drift(1, 2, 1), 0);
    }

    private static void allComeBack() {
        ThirdSon x = Check.told("one;rule 1 0 any 0 first;rule 2 0 any 0 last;");
        for (int seed : SEEDS) {
            Check.due("alone he comes back: changes", x.drift(seed, 60, 0), 0);
            Check.due("alone he comes back: owner", x.drift(seed, 60, 1), 0);
        }
        x.does(6);
        for (int seed : SEEDS) {
            Check.due("GONE at first: changes", x.drift(seed, 1, 0), 1);
            Check.due("GONE at first: owner", x.drift(seed, 1, 1), 0);
            Check.due("GONE at first: changes of 60", x.drift(seed, 60, 0), 1);
        }
        // DEED 4 is drawn from the seed 1, but nobody is there to do it: they come back behind it
        ThirdSon z = Check.told("one;gone 0;rule 1 0 fact 4 last;");
        Check.due("GONE at first: the DEED is not done, changes", z.drift(1, 1, 0), 0);
        Check.due("GONE at first: the DEED is not done, owner", z.drift(1, 1, 1), -4);
        z.comes(0);
        Check.due("not GONE at first: the DEED is done", z.drift(1, 1, 1), 0);
        ThirdSon y = Check.told("one;one;one;gone 0;gone 1;gone 2;rule 1 0 any 0 third;");
        Check.due("all three come back: changes", y.drift(5, 1, 0), 1);
        Check.due("all three come back: owner", y.drift(5, 1, 1), 2);
        Check.due("they are GONE as before", y.rule(2), 7);
    }

    private static void thing0Alone() {
        ThirdSon x = Check.told("one;one;one;rule 1 1 any 0 first;rule 1 2 tried 1 last;");
        for (int seed : SEEDS) {
            Check.due("nobody's: changes", x.drift(seed, 60, 0), 0);
            Check.due("nobody's: owner", x.drift(seed, 60, 1), -4);
        }
    }

    private static void nobodyThere() {
        ThirdSon x = Check.told("rule 1 0 any 0 first;");
        Check.due("nobody there", x.drift(1, 1, 0), -2);
        Check.due("nobody there, what 1", x.drift(1, 60, 1), -2);
        Check.due("nobody there, n 0", x.drift(1, 0, 0), -1);
        Check.due("nobody there, n 61", x.drift(1, 61, 0), -1);
        Check.due("nobody there, what 2", x.drift(1, 1, 2), -1);
        Check.due("nobody there, what -1", x.drift(1, 1, -1), -1);
        Check.due("RULES stay", x.rule(1), 1);
    }

    private static void bad() {
        int[][] bad = {{0, 0}, {61, 0}, {-1, 0}, {1, -1}, {1, 2}, {0, 1}, {61, 1},
            {Integer.MIN_VALUE, 0}, {Integer.MAX_VALUE, 0}, {1, Integer.MIN_VALUE},
            {1, Integer.MAX_VALUE}};
        for (int[] b : bad) {
            Twins.bad("drift(1, " + b[0] + ", " + b[1] + ")", x -> x.drift(1, b[0], b[1]));
        }
        ThirdSon x = Twins.duchy();
        int changes = x.drift(1, 60, 0);
        int owner = x.drift(1, 60, 1);
        Twins.unchanged("drift(1, 60, 0)", y -> y.drift(1, 60, 0), changes);
        Twins.unchanged("drift(1, 60, 1)", y -> y.drift(1, 60, 1), owner);
    }
}
