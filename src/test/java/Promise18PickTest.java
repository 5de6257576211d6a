/** Promise 18: PICK of a RULE becomes v: what it was; BAD. */
public final class Promise18PickTest {
    private Promise18PickTest() {
    }

    public static void main(String[] args) {
        fromEachToEach();
        bad();
        Check.close("Promise18PickTest");
    }

    private static void fromEachToEach() {
        ThirdSon x = Check.told("one;one;one;one;rule1 0any0first;rule2 0any0third;"
            + "rule3 0any0last;rule4 0any0last;rule5 1any0first;");
        int[] owner = {0, 2, 3};
        for (int from = 0; from <= 2; from++) {
            for (int to = 0; to <= 2; to++) {
                x.pick(4, from);
                Check.due("pick(4, " + to + ")", x.pick(4, to), from);
                Check.due("PICK of 4", x.law(4, 4), to);
                Check.due("owner(1)", x.owner(1), owner[to]);
                Check.due("the other PICKS", 100 * x.law(1, 4) + 10 * x.law(2, 4) + x.law(3, 4),
                    122);
            }
        }
        Twins.unchanged("pick(1, 2), as it was", y -> y.pick(1, 2), 2);
    }

    private static void bad() {
        int[][] bad = {{0, -1}, {0, 3}, {-1, 0}, {3, 0}, {4, 0}, {5, 0}, {3, 3},
            {Integer.MIN_VALUE, 1}, {Integer.MAX_VALUE, 1}, {1, Integer.MIN_VALUE},
            {1, Integer.MAX_VALUE}};
        for (int[] b : bad) {
            Twins.bad("pick(" + b[0] + ", " + b[1] + ")", x -> x.pick(b[0], b[1]));
        }
    }
}
