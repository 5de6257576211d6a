/** Promise 15: a FACT is known of a ONE no more: whether it was; BAD. */
public final class Promise15HushTest {
    private Promise15HushTest() {
    }

    public static void main(String[] args) {
        eachFact();
        whatWasNotKnown();
        bad();
        Check.close("Promise15HushTest");
    }

    private static void eachFact() {
        for (int f = 0; f <= 4; f++) {
            ThirdSon x = Check.told("one;one;fact 1 0;fact 1 1;fact 1 2;fact 1 3;fact 1 4;gone 1;"
                + "fact 0 " + f + ";");
            x.tries(1, 3);
            Check.due("hush(1, " + f + "), he is GONE", x.hush(1, f), 1);
            Check.due("FACTS of 1", x.one(1, 1), 31 & ~(1 << f));
            Check.due("FACTS of 0", x.one(0, 1), 1 << f);
            Check.due("TRIES of 1", x.one(1, 2), 3);
            Check.due("hush(1, " + f + ") again", x.hush(1, f), 0);
        }
        ThirdSon y = Check.told("one;fact 0 2;");
        y.hush(0, 2);
        Check.due("it can be known again", y.does(2), 1);
    }

    private static void whatWasNotKnown() {
        Twins.unchanged("hush(0, 0)", x -> x.hush(0, 0), 0);
        Twins.unchanged("hush(2, 1)", x -> x.hush(2, 1), 0);
        Twins.unchanged("hush(1, 4)", x -> x.hush(1, 4), 0);
    }

    private static void bad() {
        int[][] bad = {{0, -1}, {0, 5}, {0, 33}, {-1, 1}, {4, 1}, {5, 1}, {6, 1},
            {Integer.MIN_VALUE, 1}, {Integer.MAX_VALUE, 1}, {0, Integer.MIN_VALUE},
            {0, Integer.MAX_VALUE}};
        for (int[] b : bad) {
            Twins.bad("hush(" + b[0] + ", " + b[1] + ")", x -> x.hush(b[0], b[1]));
        }
    }
}
