/** Promise 17: RANK of a RULE becomes r: what it was; BAD; STATE: another RULE has it. */
public final class Promise17RankTest {
    private Promise17RankTest() {
    }

    public static void main(String[] args) {
        fromFirstToLast();
        anotherRuleOfItsThing();
        aRuleOfAnotherThing();
        bad();
        Check.close("Promise17RankTest");
    }

    private static void fromFirstToLast() {
        ThirdSon x = Check.told("one;rule 5 0 any 0 first;");
        int was = 5;
        for (int r = 1; r <= 9; r++) {
            Check.due("rank(0, " + r + ")", x.rank(0, r), was);
            Check.due("RANK", x.law(0, 0), r);
            was = r;
        }
        Twins.unchanged("rank(0, 9), its own", y -> y.rank(0, 9), 9);
    }

    private static void anotherRuleOfItsThing() {
        Twins.unchanged("rank(0, 5), RULE 1 has it", x -> x.rank(0, 5), -2);
        Twins.unchanged("rank(1, 9), RULE 0 has it", x -> x.rank(1, 9), -2);
        ThirdSon x = Check.told("rule 1 2 any 0 first;rule 2 0 any 0 first;rule 3 2 any 0 first;"
            + "rule 4 1 any 0 first;rule 5 2 any 0 first;");
        Check.due("of the last RULE, the first has it", x.rank(4, 1), -2);
        Check.due("of the first RULE, the last has it", x.rank(0, 5), -2);
        Check.due("of the first RULE, the third has it", x.rank(0, 3), -2);
        Check.due("the third takes another", x.rank(2, 9), 3);
        Check.due("nobody has it now", x.rank(0, 3), 1);
        Check.due("the first had it", x.rank(4, 1), 5);
    }

    private static void aRuleOfAnotherThing() {
        ThirdSon x = Check.told("one;one;rule 1 2 any 0 first;rule 2 0 any 0 last;"
            + "rule 2 3 any 0 last;");
        Check.due("rank(0, 2)", x.rank(0, 2), 1);
        Check.due("rank(1, 9)", x.rank(1, 9), 2);
        Check.due("rank(2, 9)", x.rank(2, 9), 2);
        Check.due("RANKS", 100 * x.law(0, 0) + 10 * x.law(1, 0) + x.law(2, 0), 299);
        Check.due("owners as before", 100 * x.owner(2) + 10 * x.owner(0) + x.owner(3), 11);
    }

    private static void bad() {
        int[][] bad = {{0, 0}, {0, 10}, {0, -1}, {-1, 1}, {3, 1}, {4, 1}, {5, 1}, {-1, 5}, {3, 5},
            {Integer.MIN_VALUE, 1}, {Integer.MAX_VALUE, 1}, {1, Integer.MIN_VALUE},
            {1, Integer.MAX_VALUE}};
        for (int[] b : bad) {
            Twins.bad("rank(" + b[0] + ", " + b[1] + ")", x -> x.rank(b[0], b[1]));
        }
    }
}
