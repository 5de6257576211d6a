/** Promise 24: ONES who are the OWNER of a THING in some CASE; BAD. */
public final class Promise24WhoTest {
    private Promise24WhoTest() {
    }

    public static void main(String[] args) {
        inSomeCase();
        whoIsGoneNow();
        nobody();
        bad();
        Check.close("Promise24WhoTest");
    }

    private static void inSomeCase() {
        ThirdSon x = Check.told("one;one;one;one;one;one;rule 1 0 any 0 first;rule 1 1 any 0 third;"
            + "rule 1 2 born 6 last;rule 1 3 any 0 last;");
        int[] due = {63, 60, 32, 63};
        for (int t = 0; t < 4; t++) {
            Check.due("who(" + t + ")", x.who(t), due[t]);
        }
        // 0 has it in the one CASE in which he alone is there
        ThirdSon y = Check.told("one;one;one;rule 1 0 any 0 last;");
        Check.due("in one CASE", y.who(0) & 1, 1);
        // a RULE that gives to him, but never the one of the least RANK
        ThirdSon z = Check.told("one;one;fact 0 0;rule 2 0 fact 0 last;rule 1 0 any 0 last;"
            + "rule 1 1 kin 0 last;");
        Check.due("by the least RANK", z.who(0), 3);
        z.pick(1, 0);
        z.hush(0, 0);
        Check.due("no RULE that gives it", z.who(1), 0);
    }

    private static void whoIsGoneNow() {
        ThirdSon x = Check.told("one;one;one;rule 1 0 any 0 first;gone 0;gone 1;");
        Check.due("in CASES they are not GONE", x.who(0), 7);
        x.does(26);
        Check.due("all are GONE now", x.who(0), 7);
        Check.due("and stay so", x.rule(2), 7);
    }

    private static void nobody() {
        Check.due("nobody is there", new ThirdSon().who(0), 0);
        ThirdSon x = Check.told("one;one;rule 1 0 any 0 third;");
        Check.due("nobody in any CASE", x.who(0), 0);
        Check.due("no RULE", x.who(1), 0);
    }

    private static void bad() {
        for (int t : new int[] {-1, 4, 32, Integer.MIN_VALUE, Integer.MAX_VALUE}) {
            Twins.bad("who(" + t + ")", x -> x.who(t));
        }
        Twins.unchanged("who(0)", x -> x.who(0), 15);
    }
}
