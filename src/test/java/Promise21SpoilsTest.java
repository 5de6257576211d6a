/** Promise 21: THINGS that a ONE would lose by some DEED of his own (not by going); BAD. */
public final class Promise21SpoilsTest {
    private static final String THREE = "one;one;one;";

    private Promise21SpoilsTest() {
    }

    public static void main(String[] args) {
        byEachFact();
        byFailing();
        ofEachOne();
        notByGoing();
        oneDeedAlone();
        aDeedThatCanBeDone();
        ofHisOwn();
        thingsThatAreHis();
        bad();
        Check.close("Promise21SpoilsTest");
    }

    private static void byEachFact() {
        for (int f = 0; f <= 4; f++) {
            ThirdSon x = Check.told(THREE + "fact 1 " + f + ";fact 2 " + f + ";rule 1 " + f % 4
                + " fact " + f + " third;rule 2 " + f % 4 + " any 0 first;");
            Check.due("spoils(0) by FACT " + f, x.spoils(0), 1 << f % 4);
            x.does(f);
            Check.due("spoils(0), who lost it", x.spoils(0), 0);
            Check.due("spoils(2), who has it", x.spoils(2), 0);
        }
    }

    private static void byFailing() {
        ThirdSon x = Check.told(THREE + "fact 0 0;fact 0 1;fact 0 2;fact 0 3;fact 0 4;"
            + "rule 1 0 tried 1 third;rule 2 0 any 0 first;");
        x.tries(1, 1);
        x.tries(2, 1);
        Check.due("spoils(0) by failing alone", x.spoils(0), 1);
        x.tries(2, 0);
        Check.due("spoils(0), only two would have tried", x.spoils(0), 0);
    }

    /** The last one alone can lose nothing: as the third of three he would have it. */
    private static void ofEachOne() {
        for (int p = 0; p <= 4; p++) {
            int other = p == 4 ? 3 : 4;
            for (int kind = 0; kind <= 5; kind++) {
                ThirdSon x = Check.told("one;one;one;one;one;one;rule 1 0 "
                    + (kind == 5 ? "tried 1" : "fact " + kind) + " third;rule 2 0 born " + (p + 1)
                    + " first;rule 1 1 born " + (p + 1) + " first;");
                x.does(50 + kind);
                x.does(10 * other + kind);
                for (int f = 0; f <= 4 && kind == 5; f++) {
                    x.tries(p, 0);
                    x.does(10 * p + f);
                }
                x.tries(p, 0);
                Check.due("spoils(" + p + ") by DEED " + (10 * p + kind), x.spoils(p), 1);
                Check.due("spoils(5)", x.spoils(5), 0);
                x.tries(p, 3);
                Check.due("spoils(" + p + ") with 3 TRIES", x.spoils(p), 0);
            }
        }
    }

    private static void notByGoing() {
        ThirdSon x = Check.told(THREE + "rule 1 0 any 0 first;rule 1 1 any 0 third;"
            + "rule 1 2 any 0 last;rule 1 3 born 2 first;");
        for (int p = 0; p < 3; p++) {
            Check.due("spoils(" + p + ") by going", x.spoils(p), 0);
        }
    }

    private static void oneDeedAlone() {
        ThirdSon x = Check.told(THREE + "rule 1 0 tried 2 third;rule 2 0 any 0 first;");
        x.tries(1, 2);
        x.tries(2, 2);
        Check.due("spoils(0), two deeds are needed", x.spoils(0), 0);
        x.tries(0, 1);
        Check.due("spoils(0), one deed is needed", x.spoils(0), 1);
    }

    private static void aDeedThatCanBeDone() {
        ThirdSon x = Check.told(THREE + "fact 1 3;fact 2 3;rule 1 1 fact 3 third;"
            + "rule 2 1 any 0 first;");
        x.tries(0, 2);
        Check.due("spoils(0) with 2 TRIES", x.spoils(0), 2);
        x.tries(0, 3);
        Check.due("spoils(0) with 3 TRIES", x.spoils(0), 0);
        x.tries(0, 0);
        x.does(6);
        Check.due("spoils(0) of one who is GONE", x.spoils(0), 0);
        ThirdSon y = Check.told(THREE + "gone 0;fact 1 3;fact 2 3;rule 1 1 fact 3 last;");
        Check.due("spoils(0), GONE, with nothing", y.spoils(0), 0);
    }

    /** The deeds of another one would take it from him. */
    private static void ofHisOwn() {
        ThirdSon x = Check.told(THREE + "rule 1 0 fact 0 last;rule 2 0 any 0 first;");
        Check.due("spoils(0): only others can take it", x.spoils(0), 0);
        Check.due("spoils(1): it is not his", x.spoils(1), 0);
        Check.due("spoils(2): it is not his", x.spoils(2), 0);
    }

    private static void thingsThatAreHis() {
        String fact = " fact 0 third;";
        ThirdSon x = Check.told(THREE + "fact 1 0;fact 2 0;rule 1 0" + fact + "rule 2 0 any 0 first;"
            + "rule 1 3" + fact + "rule 2 3 any 0 first;rule 1 1 any 0 first;");
        Check.due("spoils(0): two of three THINGS", x.spoils(0), 9);
        // by one deed the one, by another the other
        ThirdSon y = Check.told(THREE + "fact 1 0;fact 2 0;fact 1 1;fact 2 1;rule 1 0" + fact
            + "rule 2 0 any 0 first;rule 1 1 fact 1 third;rule 2 1 any 0 first;");
        Check.due("spoils(0): each by another deed", y.spoils(0), 3);
        // it becomes his by the deed: nothing is lost
        ThirdSon z = Check.told(THREE + "fact 0 0;fact 1 0;rule 1 0" + fact + "rule 2 0 any 0 first;");
        Check.due("spoils(2), who would win it", z.spoils(2), 0);
        Check.due("spoils(0), who would not lose it", z.spoils(0), 0);
    }

    private static void bad() {
        for (int p : new int[] {-1, 4, 5, 6, 33, Integer.MIN_VALUE, Integer.MAX_VALUE}) {
            Twins.bad("spoils(" + p + ")", x -> x.spoils(p));
        }
        for (int p = 0; p < 4; p++) {
            int one = p;
            Twins.unchanged("spoils(" + p + ")", x -> x.spoils(one), 0);
        }
    }
}
