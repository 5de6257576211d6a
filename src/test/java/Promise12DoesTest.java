/** Promise 12: a DEED: TRIES of that ONE then; BAD; STATE. */
public final class Promise12DoesTest {
    private Promise12DoesTest() {
    }

    public static void main(String[] args) {
        eachFact();
        threeTriesAtMost();
        goes();
        theLastOne();
        bad();
        stateOfOneWhoIsGone();
        stateOfAFactThatIsKnown();
        stateOfThreeTries();
        badAheadOfState();
        Check.close("Promise12DoesTest");
    }

    private static void eachFact() {
        for (int f = 0; f <= 4; f++) {
            ThirdSon x = Check.told("one;one;");
            Check.due("does(" + (10 + f) + ")", x.does(10 + f), 1);
            Check.due("FACTS of 1", x.one(1, 1), 1 << f);
            Check.due("TRIES of 1", x.one(1, 2), 1);
            Check.due("FACTS, TRIES of 0", x.one(0, 1) + x.one(0, 2), 0);
            Check.due("nobody is GONE", x.rule(2), 0);
            Check.due("the same FACT of 0", x.does(f), 1);
        }
    }

    private static void threeTriesAtMost() {
        ThirdSon x = Check.told("one;");
        Check.due("the first", x.does(5), 1);
        Check.due("the second", x.does(5), 2);
        Check.due("the third", x.does(5), 3);
        Check.due("the fourth", x.does(5), -2);
        Check.due("no FACT is known by failing", x.one(0, 1), 0);
        ThirdSon y = Check.told("one;");
        Check.due("FACT 0", y.does(0), 1);
        Check.due("a fail", y.does(5), 2);
        Check.due("FACT 4, the third", y.does(4), 3);
        Check.due("FACT 1, the fourth", y.does(1), -2);
        Check.due("FACTS", y.one(0, 1), 17);
    }

    private static void goes() {
        for (int tries = 0; tries <= 3; tries++) {
            ThirdSon x = Check.told("one;one;");
            x.tries(1, tries);
            Check.due("goes with " + tries + " TRIES", x.does(16), tries);
            Check.due("he is GONE", x.rule(2), 2);
            Check.due("TRIES as before", x.one(1, 2), tries);
            Check.due("FACTS as before", x.one(1, 1), 0);
            Check.due("goes again", x.does(16), -2);
        }
    }

    private static void theLastOne() {
        ThirdSon x = Check.told("one;one;one;one;one;one;");
        Check.due("does(54)", x.does(54), 1);
        Check.due("does(56)", x.does(56), 1);
        Check.due("he is GONE", x.rule(2), 32);
        Check.due("does(60)", x.does(60), -1);
        Check.due("does(0) of nobody", new ThirdSon().does(0), -1);
        Check.due("does(6) of nobody", new ThirdSon().does(6), -1);
    }

    private static void bad() {
        int[] bad = {7, 8, 9, 37, 38, 39, 40, 45, 46, 50, 60, 100, 320, -1, -6, -10, -16,
            Integer.MIN_VALUE, Integer.MAX_VALUE};
        for (int deed : bad) {
            Twins.bad("does(" + deed + ")", x -> x.does(deed));
        }
    }

    private static void state(String why, int deed) {
        Twins.unchanged("does(" + deed + "), " + why, x -> x.does(deed), -2);
    }

    private static void stateOfOneWhoIsGone() {
        for (int kind = 0; kind <= 6; kind++) {
            state("he is GONE", 10 + kind);
        }
    }

    private static void stateOfAFactThatIsKnown() {
        state("the FACT is known of him", 1);
        state("the FACT is known of him", 31);
        for (int f = 0; f <= 4; f++) {
            int fact = f;
            Twins.unchanged("does(3" + f + ") again", x -> {
                x.tries(3, 0);
                x.hush(3, 1);
                x.does(30 + fact);
            }, x -> x.does(30 + fact), -2);
        }
    }

    private static void stateOfThreeTries() {
        for (int kind = 0; kind <= 5; kind++) {
            state("he has 3 TRIES", 20 + kind);
        }
        ThirdSon x = Twins.duchy();
        Check.due("not of 6", x.does(26), 3);
        Check.due("he is GONE", x.rule(2), 6);
    }

    private static void badAheadOfState() {
        for (int kind = 7; kind <= 9; kind++) {
            int deed = kind;
            Twins.bad("no such DEED of one who is GONE", x -> x.does(10 + deed));
            Twins.bad("no such DEED of one with 3 TRIES", x -> x.does(20 + deed));
        }
    }
}
