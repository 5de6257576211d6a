/** Promise 6: PEOPLE, RULES, who are GONE; BAD. */
public final class Promise06RuleTest {
    private Promise06RuleTest() {
    }

    public static void main(String[] args) {
        fromNoneToAll();
        whoAreGone();
        bad();
        Check.close("Promise06RuleTest");
    }

    private static void fromNoneToAll() {
        StringBuilder people = new StringBuilder();
        for (int n = 0; n <= 6; n++) {
            ThirdSon x = Check.told(people.toString());
            Check.due(n + " PEOPLE", x.rule(0), n);
            Check.due("no RULES of " + n + " PEOPLE", x.rule(1), 0);
            people.append("one;");
        }
        StringBuilder rules = new StringBuilder();
        for (int n = 0; n <= 5; n++) {
            ThirdSon x = Check.told(rules.toString());
            Check.due(n + " RULES", x.rule(1), n);
            Check.due("no PEOPLE of " + n + " RULES", x.rule(0), 0);
            rules.append("rule ").append(n + 1).append(" 0 any 0 last;");
        }
    }

    private static void whoAreGone() {
        ThirdSon x = Check.told("one;one;one;one;one;one;gone 5;");
        Check.due("the last one is GONE", x.rule(2), 32);
        int gone = 32;
        for (int p = 0; p < 5; p++) {
            x.does(10 * p + 6);
            gone |= 1 << p;
            Check.due("GONE behind the deed of " + p, x.rule(2), gone);
        }
        Check.due("all are GONE: still PEOPLE", x.rule(0), 6);
        x.comes(0);
        Check.due("0 is not GONE", x.rule(2), 62);
        for (int what = 0; what <= 2; what++) {
            int asked = what;
            Twins.unchanged("rule(" + what + ")", y -> y.rule(asked), new int[] {4, 3, 2}[what]);
        }
    }

    private static void bad() {
        for (int what : new int[] {-1, 3, Integer.MIN_VALUE, Integer.MAX_VALUE}) {
            Twins.bad("rule(" + what + ")", x -> x.rule(what));
        }
    }
}
