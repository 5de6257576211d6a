/** Promise 34: all is as IMAGE k: who are GONE (bits); BAD; STATE: there is none. */
public final class Promise34BackTest {
    private static final String ALL = "one;one;one;one;one;one;rule1 0any0first;rule2 0any0first;"
        + "rule3 0any0first;rule4 0any0first;rule5 0any0first;";

    private Promise34BackTest() {
    }

    public static void main(String[] args) {
        whoAreGone();
        allFacts();
        allTries();
        allOdds();
        allRanks();
        allPicks();
        asOftenAsAsked();
        allElseStays();
        state();
        bad();
        Check.close("Promise34BackTest");
    }

    private static void whoAreGone() {
        for (int gone = 0; gone < 64; gone += 7) {
            ThirdSon x = Check.told("one;one;one;one;one;one;");
            for (int p = 0; p < 6; p++) {
                if ((gone >> p & 1) != 0) {
                    x.does(10 * p + 6);
                }
            }
            x.keep(1);
            for (int p = 0; p < 6; p++) {
                if (x.comes(p) == 0) {
                    x.does(10 * p + 6);
                }
            }
            Check.due("the others are GONE", x.rule(2), 63 - gone);
            Check.due("back(1)", x.back(1), gone);
            Check.due("GONE then", x.rule(2), gone);
        }
        Check.due("back(0) of nobody", kept(new ThirdSon()).back(0), 0);
    }

    private static ThirdSon kept(ThirdSon x) {
        x.keep(0);
        return x;
    }

    private static void allFacts() {
        ThirdSon x = Check.told("one;one;one;one;one;one;fact 0 0;fact 1 1;fact 2 2;fact 3 3;fact 4 4;"
            + "fact 5 0;");
        x.keep(0);
        for (int p = 0; p < 6; p++) {
            x.hush(p, p % 5);
            x.does(10 * p + (p + 1) % 5);
        }
        x.back(0);
        for (int p = 0; p < 6; p++) {
            Check.due("FACTS of " + p, x.one(p, 1), 1 << p % 5);
        }
    }

    private static void allTries() {
        ThirdSon x = Check.told(ALL);
        for (int p = 0; p < 6; p++) {
            x.tries(p, p % 4);
        }
        x.keep(0);
        for (int p = 0; p < 6; p++) {
            x.tries(p, 3 - p % 4);
        }
        x.back(0);
        for (int p = 0; p < 6; p++) {
            Check.due("TRIES of " + p, x.one(p, 2), p % 4);
        }
    }

    private static void allOdds() {
        ThirdSon x = Check.told(ALL);
        for (int f = 0; f < 5; f++) {
            x.weigh(f, 2 * f);
        }
        x.keep(0);
        for (int f = 0; f < 5; f++) {
            x.weigh(f, 10 - f);
        }
        x.back(0);
        for (int f = 0; f < 5; f++) {
            Check.due("ODDS of " + f, x.odd(f), 2 * f);
        }
    }

    private static void allRanks() {
        ThirdSon x = Check.told(ALL);
        x.keep(0);
        int[] others = {9, 8, 7, 6, 2};
        for (int k = 0; k < 5; k++) {
            x.rank(k, others[k]);
        }
        x.back(0);
        for (int k = 0; k < 5; k++) {
            Check.due("RANK of " + k, x.law(k, 0), k + 1);
        }
    }

    private static void allPicks() {
        ThirdSon x = Check.told(ALL);
        for (int k = 0; k < 5; k++) {
            x.pick(k, k % 3);
        }
        x.keep(0);
        for (int k = 0; k < 5; k++) {
            x.pick(k, (k + 1) % 3);
        }
        x.back(0);
        for (int k = 0; k < 5; k++) {
            Check.due("PICK of " + k, x.law(k, 4), k % 3);
        }
        Check.due("by the first RULE", x.owner(0), 0);
    }

    private static void asOftenAsAsked() {
        ThirdSon x = Check.told(ALL);
        x.does(56);
        x.keep(0);
        x.comes(5);
        x.keep(1);
        for (int i = 0; i < 3; i++) {
            Check.due("back(0), the " + i, x.back(0), 32);
            Check.due("back(0) behind it", x.back(0), 32);
            Check.due("back(1), the " + i, x.back(1), 0);
        }
    }

    private static void allElseStays() {
        for (int k = 0; k < 2; k++) {
            int image = k;
            Twins.unchanged("back(" + k + ") to what is", x -> x.keep(image), x -> x.back(image), 2);
        }
    }

    private static void state() {
        ThirdSon x = new ThirdSon();
        Check.due("back(0) of a new object", x.back(0), -2);
        Check.due("back(1) of a new object", x.back(1), -2);
        x.keep(0);
        Check.due("back(1), IMAGE 0 alone", x.back(1), -2);
        Check.due("back(0), IMAGE 0 alone", x.back(0), 0);
        x.text();
        Check.due("back(0) behind a text", x.back(0), -2);
        x.keep(1);
        Check.due("back(0), IMAGE 1 alone", x.back(0), -2);
        Check.due("back(1), IMAGE 1 alone", x.back(1), 0);
        Check.tell(x, "?");
        Check.due("back(1) behind a FAULT", x.back(1), 0);
        for (int k = 0; k < 2; k++) {
            int image = k;
            Twins.unchanged("back(" + k + ") of none", Promise34BackTest::noImages,
                y -> y.back(image), -2);
        }
    }

    /** Another duchy, of which something is SEEN and changed. */
    private static void noImages(ThirdSon x) {
        x.end(0);
        Check.tell(x, "one;one 0;rule 1 0 any 0 last;");
        x.see(0, 1);
        x.does(16);
        x.does(3);
        x.weigh(0, 1);
        x.rank(0, 9);
        x.pick(0, 0);
        x.feed('?');
    }

    private static void bad() {
        for (int k : new int[] {-1, 2, 32, Integer.MIN_VALUE, Integer.MAX_VALUE}) {
            Twins.bad("back(" + k + ")", x -> x.back(k));
            Check.due("back(" + k + "), BAD ahead of STATE", new ThirdSon().back(k), -1);
        }
    }
}
