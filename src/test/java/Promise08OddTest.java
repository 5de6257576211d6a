/** Promise 8: ODDS of a FACT; BAD. */
public final class Promise08OddTest {
    private Promise08OddTest() {
    }

    public static void main(String[] args) {
        ThirdSon x = Check.told("odds 0 0;odds 4 10;odds 2 9;");
        int[] due = {0, 5, 9, 5, 10};
        for (int f = 0; f < 5; f++) {
            Check.due("odd(" + f + ")", x.odd(f), due[f]);
        }
        x.weigh(1, 10);
        x.weigh(4, 0);
        Check.due("odd(1) weighed", x.odd(1), 10);
        Check.due("odd(4) weighed", x.odd(4), 0);
        Twins.unchanged("odd(0)", y -> y.odd(0), 9);
        for (int f : new int[] {-1, 5, 32, Integer.MIN_VALUE, Integer.MAX_VALUE}) {
            Twins.bad("odd(" + f + ")", y -> y.odd(f));
        }
        Check.close("Promise08OddTest");
    }
}
