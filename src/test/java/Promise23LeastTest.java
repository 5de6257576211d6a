/** Promise 23: the fewest RULES by which all is owned alike in all CASES; the least set; BAD. */
public final class Promise23LeastTest {
    private Promise23LeastTest() {
    }

    public static void main(String[] args) {
        fromNoneToAll();
        theLeastSet();
        inAllCases();
        allThings();
        bad();
        Check.close("Promise23LeastTest");
    }

    private static void least(String why, String text, int many, int set) {
        ThirdSon x = Check.told(text);
        Check.due("least(0), " + why, x.least(0), many);
        Check.due("least(1), " + why, x.least(1), set);
    }

    private static void fromNoneToAll() {
        least("no RULES, nobody", "", 0, 0);
        least("no RULES", "one;one;", 0, 0);
        least("nobody", "rule 1 0 any 0 first;rule 2 0 any 0 last;", 0, 0);
        least("RULES that never give", "one;rule 1 0 any 0 third;rule 2 1 fact 0 first;", 0, 0);
        least("one RULE", "one;rule 1 0 any 0 first;", 1, 1);
        least("all five RULES", "one;one;rule1 0any0first;rule1 1any0first;rule1 2any0first;"
            + "rule1 3born2first;rule2 3any0first;", 5, 31);
    }

    private static void theLeastSet() {
        least("two alike", "one;rule 2 0 any 0 first;rule 1 0 tried 0 last;", 1, 1);
        least("two alike of each THING", "one;rule 2 0 any 0 first;rule 1 0 any 0 last;"
            + "rule 1 1 any 0 first;rule 2 1 any 0 last;", 2, 5);
        // one RULE does what two do, though it stands behind them
        least("fewer, not less", "one;one;fact 0 1;fact 1 1;rule 1 0 born 2 last;"
            + "rule 2 0 born 1 first;rule 3 0 fact 1 last;", 1, 4);
        least("just the last", "one;one;rule 2 0 any 0 first;rule 3 0 any 0 third;"
            + "rule 1 0 any 0 last;", 1, 4);
    }

    private static void inAllCases() {
        // nobody but 0 has it while 0 is there: the second is for the other CASES
        least("a CASE that is not now", "one;one;fact 0 0;rule 1 0 fact 0 first;rule 2 0 any 0 last;",
            2, 3);
        least("one CASE alone", "one;one;one;rule 1 0 born 3 first;rule 2 0 any 0 first;", 2, 3);
        ThirdSon x = Check.told("one;one;rule 1 0 born 2 first;rule 2 0 any 0 first;gone 0;gone 1;");
        Check.due("least(0), all are GONE now", x.least(0), 2);
        Check.due("least(1), all are GONE now", x.least(1), 3);
    }

    private static void allThings() {
        for (int t = 0; t < 4; t++) {
            least("THING " + t, "one;rule 1 " + t + " any 0 third;rule 2 " + t + " any 0 last;", 1, 2);
        }
    }

    private static void bad() {
        for (int what : new int[] {-1, 2, Integer.MIN_VALUE, Integer.MAX_VALUE}) {
            Twins.bad("least(" + what + ")", x -> x.least(what));
        }
        Twins.unchanged("least(0)", x -> x.least(0), 1);
        Twins.unchanged("least(1)", x -> x.least(1), 2);
    }
}
