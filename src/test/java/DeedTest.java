/** Promises 19 to 21: rows of deeds, who would change it by going, what spoils. */
public final class DeedTest {
    private static final String DUCHY = "one;one 0;one 0;one 0;one;fact 4 1;odds 1 7;odds 2 3;"
        + "rule 1 0 born 3 first;rule 2 0 fact 1 last;rule 3 1 tried 1 third;rule 4 1 kin 0 last;";

    private DeedTest() {
    }

    public static void main(String[] args) {
        claim();
        claimOfTries();
        claimRefused();
        pivot();
        spoils();
        Check.close("DeedTest");
    }

    /** A row is told by how many deeds it has, and each of them. */
    private static void row(ThirdSon x, int p, int t, int n, int... deeds) {
        String call = "claim(" + p + ", " + t + ", " + n + ", ";
        Check.due(call + "0)", x.claim(p, t, n, 0), deeds.length);
        for (int k = 0; k < n; k++) {
            int due = k < deeds.length ? deeds[k] : -4;
            Check.due(call + (10 + k) + ")", x.claim(p, t, n, 10 + k), due);
        }
    }

    private static void noRow(ThirdSon x, int p, int t, int n) {
        String call = "claim(" + p + ", " + t + ", " + n + ", ";
        Check.due(call + "0)", x.claim(p, t, n, 0), -4);
        for (int k = 0; k < n; k++) {
            Check.due(call + (10 + k) + ")", x.claim(p, t, n, 10 + k), -4);
        }
    }

    private static void claim() {
        ThirdSon x = Check.told(DUCHY);
        row(x, 3, 0, 0);
        row(x, 3, 0, 3);
        row(x, 4, 0, 1, 16);
        row(x, 4, 0, 3, 16);
        noRow(x, 4, 0, 0);
        noRow(x, 2, 0, 2);
        row(x, 2, 0, 3, 16, 21, 46);
        row(x, 2, 1, 2, 36);
        row(x, 4, 1, 3, 0, 10, 40);
        noRow(x, 0, 2, 3);
        Check.due("nothing is changed: GONE", x.rule(2), 0);
        Check.due("nothing is changed: FACTS", x.count(5), 1);
        Check.due("nothing is changed: TRIES", x.count(6), 0);
        x.does(46);
        noRow(x, 4, 0, 3);
    }

    private static void claimOfTries() {
        ThirdSon x = Check.told("one;rule 1 0 tried 2 last;rule 1 1 tried 3 last;");
        row(x, 0, 0, 2, 0, 1);
        row(x, 0, 1, 3, 0, 1, 2);
        x.tries(0, 1);
        row(x, 0, 0, 2, 0);
        ThirdSon y = Check.told("one;fact 0 0;fact 0 1;fact 0 2;fact 0 3;fact 0 4;"
            + "rule 1 0 tried 2 last;rule 1 1 tried 3 last;");
        row(y, 0, 0, 2, 5, 5);
        row(y, 0, 1, 3, 5, 5, 5);
        noRow(y, 0, 1, 2);
        ThirdSon z = Check.told("one;one;rule 1 0 fact 0 last;rule 2 0 any 0 first;");
        row(z, 1, 0, 1, 6);
        row(z, 0, 0, 3);
        z.does(10);
        row(z, 0, 0, 3, 16);
        z.tries(0, 3);
        z.does(16);
        row(z, 0, 0, 3);
        ThirdSon w = Check.told("one;rule 1 0 fact 0 last;");
        row(w, 0, 0, 1, 0);
        w.tries(0, 3);
        noRow(w, 0, 0, 3);
    }

    private static void claimRefused() {
        ThirdSon x = Check.told(DUCHY);
        int[][] bad = {{5, 0, 1, 0}, {-1, 0, 1, 0}, {0, 4, 1, 0}, {0, -1, 1, 0}, {0, 0, 4, 0},
            {0, 0, -1, 0}, {3, 0, 1, 1}, {3, 0, 1, 9}, {3, 0, 1, -1}, {3, 0, 0, 10},
            {3, 0, 1, 11}, {3, 0, 2, 12}, {3, 0, 3, 13}, {3, 0, 3, Integer.MIN_VALUE},
            {3, 0, 3, Integer.MAX_VALUE}};
        for (int[] b : bad) {
            Check.due("claim(" + b[0] + ", " + b[1] + ", " + b[2] + ", " + b[3] + ")",
                x.claim(b[0], b[1], b[2], b[3]), -1);
        }
    }

    private static void pivot() {
        ThirdSon x = Check.told(DUCHY);
        int[] due = {14, 8, 0, 0};
        for (int t = 0; t < 4; t++) {
            Check.due("pivot(" + t + ")", x.pivot(t), due[t]);
        }
        x.does(16);
        Check.due("pivot(0), 1 gone", x.pivot(0), 16);
        Check.due("pivot changes nothing", x.rule(2), 2);
        Check.due("pivot(-1)", x.pivot(-1), -1);
        Check.due("pivot(4)", x.pivot(4), -1);
        // nobody's ahead, somebody's behind
        ThirdSon y = Check.told("one;one 0;one 0;rule 1 0 bare 1 first;");
        Check.due("owner ahead", y.owner(0), -4);
        Check.due("pivot of what is nobody's", y.pivot(0), 6);
        ThirdSon z = Check.told("one;one;rule 1 0 any 0 first;rule 1 1 any 0 last;");
        Check.due("pivot(0), the first of two", z.pivot(0), 1);
        Check.due("pivot(1), the last of two", z.pivot(1), 2);
        z.does(6);
        Check.due("pivot(0), the first gone", z.pivot(0), 2);
        z.does(16);
        Check.due("pivot(0), all gone", z.pivot(0), 0);
    }

    private static void spoils() {
        ThirdSon x = Check.told("one;one;one;fact 1 0;fact 2 0;rule 1 0 fact 0 third;"
            + "rule 2 0 any 0 first;rule 1 1 any 0 first;rule 1 2 any 0 last;");
        Check.due("spoils(0) by a FACT", x.spoils(0), 1);
        Check.due("spoils(1), who has nothing", x.spoils(1), 0);
        Check.due("spoils(2), who would lose it by going alone", x.spoils(2), 0);
        Check.due("nothing is changed", 10 * x.count(5) + x.count(6), 20);
        x.tries(0, 3);
        Check.due("spoils(0) with 3 TRIES", x.spoils(0), 0);
        Check.due("spoils(3)", x.spoils(3), -1);
        Check.due("spoils(-1)", x.spoils(-1), -1);
        ThirdSon z = Check.told("one;one;one;one;rule 1 0 tried 2 third;rule 2 0 tried 0 last;"
            + "rule 1 1 tried 1 third;rule 2 1 tried 0 last;");
        z.tries(0, 2);
        z.tries(1, 2);
        Check.due("spoils(3), who would be the third", z.spoils(3), 0);
        z.tries(0, 0);
        z.tries(2, 2);
        z.tries(3, 2);
        Check.due("0 is not the last", z.spoils(0), 0);
        z.pick(1, 0);
        Check.due("owner ahead of two deeds", z.owner(0), 3);
        z.tries(3, 0);
        Check.due("owner when two have tried twice", z.owner(0), 0);
        Check.due("spoils(0): one deed is not two", z.spoils(0), 0);
        z.tries(0, 1);
        Check.due("spoils(0): the second deed", z.spoils(0), 1);
        z.pick(1, 2);
        z.tries(0, 2);
        z.tries(3, 1);
        z.tries(2, 1);
        z.does(36);
        Check.due("spoils(2) of a third who stays", z.spoils(2), 0);
        ThirdSon w = Check.told("one;one;one;one;fact 3 1;fact 0 1;rule 1 2 fact 1 third;"
            + "rule 2 2 born 2 first;");
        Check.due("spoils(1) of a later one", w.spoils(1), 4);
        Check.due("spoils(2), who has nothing", w.spoils(2), 0);
        ThirdSon y = Check.told("one;one;one;fact 0 0;fact 0 1;fact 0 2;fact 0 3;fact 0 4;"
            + "rule 1 3 tried 1 third;rule 2 3 any 0 first;");
        y.tries(1, 1);
        y.tries(2, 3);
        Check.due("spoils(0) by a fail", y.spoils(0), 8);
        y.does(6);
        Check.due("spoils(0) of a GONE one", y.spoils(0), 0);
    }
}
