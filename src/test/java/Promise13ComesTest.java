/** Promise 13: a ONE who is GONE comes back: whether he was; BAD. */
public final class Promise13ComesTest {
    private Promise13ComesTest() {
    }

    public static void main(String[] args) {
        heAlone();
        whoWasNot();
        bad();
        Check.close("Promise13ComesTest");
    }

    private static void heAlone() {
        ThirdSon x = Check.told("one;one;one;one;one;one;gone 0;gone 1;gone 5;fact 1 2;fact 5 4;");
        x.tries(5, 3);
        Check.due("comes(5)", x.comes(5), 1);
        Check.due("the others are GONE", x.rule(2), 3);
        Check.due("comes(0)", x.comes(0), 1);
        Check.due("one other is GONE", x.rule(2), 2);
        Check.due("comes(1)", x.comes(1), 1);
        Check.due("nobody is GONE", x.rule(2), 0);
        Check.due("FACTS stay", x.one(1, 1) + x.one(5, 1), 20);
        Check.due("TRIES stay", x.one(5, 2), 3);
        Check.due("he can go again", x.does(56), 3);
        Check.due("he can come again", x.comes(5), 1);
    }

    private static void whoWasNot() {
        for (int p : new int[] {0, 2, 3}) {
            Twins.unchanged("comes(" + p + ")", x -> x.comes(p), 0);
        }
        Twins.unchanged("comes(1) again", x -> x.comes(1), x -> x.comes(1), 0);
    }

    private static void bad() {
        for (int p : new int[] {-1, 4, 5, 6, 33, Integer.MIN_VALUE, Integer.MAX_VALUE}) {
            Twins.bad("comes(" + p + ")", x -> x.comes(p));
        }
    }
}
