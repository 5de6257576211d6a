/** Promise 28: TRYING of a ONE for a THING: how likely it comes out well, the FACT first; BAD. */
public final class Promise28BestTest {
    private static final String TWO = "one;one;rule 1 0 fact 1 last;rule 2 0 any 0 first;"
        + "rule 1 1 tried 2 last;";

    private Promise28BestTest() {
    }

    public static void main(String[] args) {
        nAtMost();
        lowestTerms();
        lessThanThreeTries();
        aFactNotKnown();
        whereToTryIsNoBetter();
        theLeastFactThatIsBest();
        byWhatCameOfIt();
        orNoMore();
        triesAreOneMoreEitherWay();
        whoIsGone();
        bad();
        Check.close("Promise28BestTest");
    }

    private static void best(String why, ThirdSon x, int p, int t, int n, long... due) {
        for (int what = 0; what < 3; what++) {
            Check.due(why + ": best(" + p + ", " + t + ", " + n + ", " + what + ")",
                x.best(p, t, n, what), due[what]);
        }
    }

    private static void nAtMost() {
        ThirdSon x = Check.told(TWO + "odds 1 1;");
        best("no try", x, 1, 0, 0, 0, 1, 5);
        best("one try", x, 1, 0, 1, 1, 10, 1);
        best("two tries", x, 1, 0, 2, 19, 100, 1);
        best("three tries", x, 1, 0, 3, 271, 1000, 1);
        best("no try, his", x, 0, 0, 0, 1, 1, 5);
    }

    private static void lowestTerms() {
        ThirdSon x = Check.told(TWO);
        long[][] due = {{0, 1}, {1, 10}, {1, 5}, {3, 10}, {2, 5}, {1, 2}, {3, 5}, {7, 10}, {4, 5},
            {9, 10}, {1, 1}};
        for (int v = 0; v <= 10; v++) {
            x.weigh(1, v);
            best("ODDS " + v, x, 1, 0, 1, due[v][0], due[v][1], v == 0 ? 5 : 1);
        }
        x.weigh(1, 2);
        best("two tries", x, 1, 0, 2, 9, 25, 1);
        x.weigh(1, 5);
        best("three tries", x, 1, 0, 3, 7, 8, 1);
        x.weigh(1, 0);
        best("0 is 0 by 1", x, 1, 0, 3, 0, 1, 5);
    }

    private static void lessThanThreeTries() {
        ThirdSon x = Check.told(TWO + "odds 1 6;");
        long[][] due = {{117, 125, 1}, {21, 25, 1}, {3, 5, 1}, {0, 1, 5}};
        for (int tries = 0; tries <= 3; tries++) {
            x.tries(1, tries);
            best(tries + " TRIES", x, 1, 0, 3, due[tries]);
        }
        x.tries(0, 3);
        best("his, 3 TRIES", x, 0, 0, 3, 1, 1, 5);
    }

    private static void aFactNotKnown() {
        // he may not try for what he knows, be it the least that counts
        ThirdSon x = Check.told("one;fact 0 0;fact 0 2;rule 1 0 tried 1 last;");
        best("the least not known", x, 0, 0, 1, 1, 1, 1);
        x.does(1);
        x.tries(0, 0);
        best("the least not known then", x, 0, 0, 1, 1, 1, 3);
        x.does(3);
        x.does(4);
        x.tries(0, 0);
        best("all known", x, 0, 0, 3, 0, 1, 5);
        // what is known stays so while he tries on
        ThirdSon y = Check.told("one;fact 0 1;fact 0 2;fact 0 3;fact 0 4;odds 0 10;"
            + "rule 1 0 tried 2 last;");
        best("no second FACT to try for", y, 0, 0, 2, 0, 1, 5);
        y.weigh(0, 3);
        best("a second try when the first failed", y, 0, 0, 2, 7, 10, 0);
    }

    private static void whereToTryIsNoBetter() {
        ThirdSon x = Check.told(TWO);
        best("it is his", x, 0, 0, 3, 1, 1, 5);
        best("no RULE gives it", x, 0, 2, 3, 0, 1, 5);
        best("too few tries", x, 0, 1, 1, 0, 1, 5);
        x.tries(0, 2);
        x.tries(1, 2);
        best("another one is behind him", x, 0, 1, 1, 0, 1, 5);
        x.does(11);
        best("another one knows it", x, 0, 0, 1, 0, 1, 5);
    }

    private static void theLeastFactThatIsBest() {
        String rules = "rule 1 0 fact 1 last;rule 2 0 fact 3 last;";
        ThirdSon x = Check.told("one;" + rules + "odds 1 4;odds 3 4;");
        best("two that are as good", x, 0, 0, 1, 2, 5, 1);
        x.weigh(3, 5);
        best("the later one is better", x, 0, 0, 1, 1, 2, 3);
        x.weigh(1, 6);
        best("the earlier one is better", x, 0, 0, 1, 3, 5, 1);
        x.weigh(3, 10);
        best("for sure", x, 0, 0, 1, 1, 1, 3);
        // with a try to spare any FACT first is as good
        best("for sure by the second try", x, 0, 0, 2, 1, 1, 0);
    }

    /** What he tries for next may hang on what came of it. */
    private static void byWhatCameOfIt() {
        ThirdSon x = Check.told("one;one;one;fact 1 0;fact 2 0;odds 0 5;odds 1 5;odds 2 4;"
            + "rule 1 0 fact 0 third;rule 2 0 fact 1 last;rule 3 0 fact 2 last;");
        // FACT 0 takes it from 0: he never tries for it
        best("one of two FACTS", x, 0, 0, 1, 1, 2, 1);
        best("then the other or the same", x, 0, 0, 2, 3, 4, 1);
        best("thrice", x, 0, 0, 3, 7, 8, 1);
        x.does(11);
        best("1 knows the one", x, 0, 0, 1, 0, 1, 5);
        // 1 has it by FACT 1: by none of his own can 0 have it, but 2 can
        best("the last who knows it", x, 2, 0, 2, 3, 4, 1);
    }

    /** He stops when it is his: one more try would take it from him. */
    private static void orNoMore() {
        ThirdSon x = Check.told("one;one;one;odds 0 3;rule 1 0 tried 2 third;rule 2 0 fact 0 last;"
            + "rule 3 0 fact 1 first;");
        x.tries(1, 2);
        x.tries(2, 2);
        best("one try", x, 0, 0, 1, 1, 2, 1);
        // the second try gives it to the third of those who tried
        best("a second would spoil it", x, 0, 0, 2, 1, 2, 1);
        ThirdSon y = Check.told("one;one;one;rule 1 0 tried 1 third;rule 2 0 any 0 first;");
        y.tries(1, 1);
        y.tries(2, 1);
        best("any try would spoil it", y, 0, 0, 3, 1, 1, 5);
    }

    private static void triesAreOneMoreEitherWay() {
        ThirdSon x = Check.told("one;rule 1 0 tried 3 last;rule 1 1 tried 1 last;odds 0 0;odds 1 10;");
        best("he fails for sure", x, 0, 1, 1, 1, 1, 0);
        x.weigh(0, 10);
        best("it becomes known for sure", x, 0, 1, 1, 1, 1, 0);
        best("just three", x, 0, 0, 3, 1, 1, 0);
        best("two of three", x, 0, 0, 2, 0, 1, 5);
        x.tries(0, 1);
        best("two more", x, 0, 0, 2, 1, 1, 0);
    }

    private static void whoIsGone() {
        ThirdSon x = Check.told("one;one;gone 1;rule 1 0 fact 1 last;rule 1 1 any 0 first;");
        best("who is GONE has nothing", x, 1, 0, 3, 0, 1, 5);
        best("who is GONE has nothing", x, 1, 1, 3, 0, 1, 5);
        best("the other has it", x, 0, 1, 3, 1, 1, 5);
    }

    private static void bad() {
        int[][] bad = {{-1, 0, 1, 0}, {4, 0, 1, 0}, {5, 0, 1, 0}, {6, 0, 1, 0}, {0, -1, 1, 0},
            {0, 4, 1, 0}, {0, 0, -1, 0}, {0, 0, 4, 0}, {0, 0, 1, -1}, {0, 0, 1, 3},
            {Integer.MIN_VALUE, 0, 1, 0}, {Integer.MAX_VALUE, 0, 1, 0}, {0, Integer.MIN_VALUE, 1, 0},
            {0, Integer.MAX_VALUE, 1, 0}, {0, 0, Integer.MIN_VALUE, 0}, {0, 0, Integer.MAX_VALUE, 0},
            {0, 0, 1, Integer.MIN_VALUE}, {0, 0, 1, Integer.MAX_VALUE}};
        for (int[] b : bad) {
            Twins.bad("best(" + b[0] + ", " + b[1] + ", " + b[2] + ", " + b[3] + ")",
                x -> x.best(b[0], b[1], b[2], b[3]));
        }
        Twins.unchanged("best(3, 0, 3, 2)", x -> x.best(3, 0, 3, 2), 5);
        Twins.unchanged("best(0, 0, 3, 2)", x -> x.best(0, 0, 3, 2), 5);
        Twins.unchanged("best(0, 1, 3, 1)", x -> x.best(0, 1, 3, 1), 1);
    }
}
