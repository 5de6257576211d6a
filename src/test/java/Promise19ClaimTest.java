/** Promise 19: the shortest row of DEEDS, n at most, behind which a ONE is the OWNER; BAD; NONE. */
public final class Promise19ClaimTest {
    private Promise19ClaimTest() {
    }

    public static void main(String[] args) {
        noDeedsAreNeeded();
        nAtMost();
        theShortest();
        theFirstByNumbers();
        ofAnybody();
        thatCanBeDone();
        thereIsNone();
        bad();
        nothingIsChanged();
        Check.close("Promise19ClaimTest");
    }

    private static void row(String why, ThirdSon x, int p, int t, int n, int... deeds) {
        String call = why + ": claim(" + p + ", " + t + ", " + n + ", ";
        Check.due(call + "0)", x.claim(p, t, n, 0), deeds.length);
        for (int k = 0; k < n; k++) {
            int due = k < deeds.length ? deeds[k] : -4;
            Check.due(call + (10 + k) + ")", x.claim(p, t, n, 10 + k), due);
        }
        Check.due(call + (10 + n) + "), k no less than n", x.claim(p, t, n, 10 + n), -1);
    }

    private static void noRow(String why, ThirdSon x, int p, int t, int n) {
        String call = why + ": claim(" + p + ", " + t + ", " + n + ", ";
        Check.due(call + "0)", x.claim(p, t, n, 0), -4);
        for (int k = 0; k < n; k++) {
            Check.due(call + (10 + k) + ")", x.claim(p, t, n, 10 + k), -4);
        }
        Check.due(call + (10 + n) + "), k no less than n", x.claim(p, t, n, 10 + n), -1);
    }

    private static void noDeedsAreNeeded() {
        ThirdSon x = Check.told("one;one;rule 1 3 any 0 last;");
        for (int n = 0; n <= 3; n++) {
            row("he is THE OWNER", x, 1, 3, n);
        }
    }

    private static void nAtMost() {
        ThirdSon x = Check.told("one;rule 1 0 tried 3 last;rule 1 1 tried 2 last;"
            + "rule 1 2 tried 1 last;");
        int[][] rows = {{0, 1, 2}, {0, 1}, {0}};
        for (int t = 0; t <= 2; t++) {
            for (int n = 0; n <= 3; n++) {
                if (n < rows[t].length) {
                    noRow("too few", x, 0, t, n);
                } else {
                    row("just so many or more", x, 0, t, n, rows[t]);
                }
            }
        }
        ThirdSon four = Check.told("one;one;one;one;one;rule 1 0 any 0 first;");
        row("three who go", four, 3, 0, 3, 6, 16, 26);
        noRow("two of three who must go", four, 3, 0, 2);
        noRow("four who must go", four, 4, 0, 3);
    }

    private static void theShortest() {
        ThirdSon x = Check.told("one;one;rule 1 0 any 0 last;rule 1 1 fact 4 last;"
            + "rule 2 1 tried 2 first;");
        // 0, 16 is ahead by NUMBERS, but longer
        row("he goes", x, 0, 0, 3, 16);
        // 0, 1 likewise
        row("the FACT", x, 0, 1, 3, 4);
        row("the FACT, 1", x, 1, 1, 3, 14);
    }

    private static void theFirstByNumbers() {
        ThirdSon x = Check.told("one;one;rule 1 0 tried 1 last;");
        for (int f = 0; f <= 4; f++) {
            row("any FACT not known", x, 0, 0, 1, f);
            row("any FACT not known", x, 1, 0, 1, 10 + f);
            x.does(f);
            x.does(10 + f);
            x.tries(0, 0);
            x.tries(1, 0);
        }
        row("all FACTS known", x, 0, 0, 1, 5);
        row("all FACTS known", x, 1, 0, 1, 15);
        ThirdSon y = Check.told("one;one;one;rule 1 0 tried 2 third;rule 2 1 any 0 first;"
            + "fact 0 0;fact 0 2;fact 0 3;fact 0 4;");
        y.tries(0, 1);
        y.tries(1, 1);
        y.tries(2, 1);
        row("one deed of each", y, 2, 0, 3, 1, 10, 20);
        row("two go ahead of him", y, 2, 1, 3, 6, 16);
    }

    private static void ofAnybody() {
        ThirdSon x = Check.told("one;one;one;rule 1 0 fact 3 third;rule 1 1 tried 1 third;");
        row("the FACT of each", x, 2, 0, 3, 3, 13, 23);
        row("a try of each", x, 2, 1, 3, 0, 10, 20);
        noRow("two of three", x, 2, 0, 2);
        x.does(13);
        row("the FACT of the others", x, 2, 0, 2, 3, 23);
        row("a try of the others", x, 2, 1, 2, 0, 20);
        noRow("who is not the third", x, 1, 0, 3);
        ThirdSon six = Check.told("one;one;one;one;one;one;rule 1 0 any 0 last;");
        row("the last one goes", six, 4, 0, 3, 56);
        row("three go", six, 2, 0, 3, 36, 46, 56);
    }

    private static void thatCanBeDone() {
        ThirdSon x = Check.told("one;one;rule 1 0 fact 0 last;rule 1 1 tried 3 last;");
        x.tries(0, 2);
        row("the third try", x, 0, 0, 3, 0);
        row("the third try", x, 0, 1, 3, 0);
        x.tries(0, 3);
        noRow("3 TRIES: no more", x, 0, 0, 3);
        row("3 TRIES: going", x, 0, 1, 0);
        x.tries(0, 0);
        x.does(1);
        row("a FACT that is known is not tried again", x, 0, 1, 3, 0, 2);
        x.does(16);
        noRow("who is GONE does nothing", x, 1, 0, 3);
        noRow("who is GONE has nothing", x, 1, 1, 3);
        ThirdSon all = Check.told("one;fact 0 0;fact 0 1;fact 0 2;fact 0 3;rule 1 0 tried 3 last;");
        row("one FACT, then he fails", all, 0, 0, 3, 4, 5, 5);
    }

    private static void thereIsNone() {
        ThirdSon x = Twins.duchy();
        for (int n = 0; n <= 3; n++) {
            noRow("no RULE gives it", x, 0, 3, n);
        }
        ThirdSon y = Check.told("one;one;rule 1 0 any 0 third;");
        noRow("they are too few", y, 1, 0, 3);
    }

    private static void bad() {
        int[][] bad = {{-1, 0, 1, 0}, {4, 0, 1, 0}, {5, 0, 1, 0}, {6, 0, 1, 0}, {0, -1, 1, 0},
            {0, 4, 1, 0}, {0, 0, -1, 0}, {0, 0, 4, 0}, {0, 0, 4, 10}, {0, 0, 3, -1}, {0, 0, 3, 1},
            {0, 0, 3, 2}, {0, 0, 3, 9}, {0, 0, 3, 13}, {0, 0, 2, 12}, {0, 0, 1, 11}, {0, 0, 0, 10},
            {3, 0, 3, 9}, {3, 0, 0, 10}, {0, 3, 3, 9}, {0, 3, 1, 11}, {0, 3, 0, 10},
            {0, 0, 3, Integer.MIN_VALUE}, {0, 0, 3, Integer.MIN_VALUE + 9},
            {0, 0, 3, Integer.MAX_VALUE}, {Integer.MIN_VALUE, 0, 0, 0}, {Integer.MAX_VALUE, 0, 0, 0},
            {0, Integer.MIN_VALUE, 0, 0}, {0, Integer.MAX_VALUE, 0, 0}, {0, 0, Integer.MIN_VALUE, 0},
            {0, 0, Integer.MAX_VALUE, 0}};
        for (int[] b : bad) {
            Twins.bad("claim(" + b[0] + ", " + b[1] + ", " + b[2] + ", " + b[3] + ")",
                x -> x.claim(b[0], b[1], b[2], b[3]));
        }
    }

    private static void nothingIsChanged() {
        Twins.unchanged("a row that is found", x -> x.claim(0, 0, 3, 11), 36);
        Twins.unchanged("how many", x -> x.claim(0, 0, 3, 0), 2);
        Twins.unchanged("no row", x -> x.claim(0, 3, 3, 0), -4);
    }
}
