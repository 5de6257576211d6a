/** Promise 30: SEEN are the first n alone: how many there were; BAD. */
public final class Promise30ForgetTest {
    private Promise30ForgetTest() {
    }

    public static void main(String[] args) {
        howManyThereWere();
        theFirstOnes();
        bad();
        Check.close("Promise30ForgetTest");
    }

    private static void howManyThereWere() {
        ThirdSon x = Check.told("one;");
        Check.due("forget(0) of none", x.forget(0), 0);
        for (int i = 0; i < 6; i++) {
            x.see(0, -4);
        }
        Check.due("forget(7)", x.forget(7), -1);
        Check.due("forget(6), all that are", x.forget(6), 6);
        Check.due("forget(5)", x.forget(5), 6);
        Check.due("SEEN", x.count(0), 5);
        Check.due("forget(6) of 5", x.forget(6), -1);
        Check.due("forget(1)", x.forget(1), 5);
        Check.due("forget(0)", x.forget(0), 1);
        Check.due("none SEEN", x.count(0), 0);
        Twins.unchanged("forget(2), all that are", y -> y.forget(2), 2);
    }

    private static void theFirstOnes() {
        ThirdSon x = Check.told("one;one;one;rule 1 0 any 0 first;");
        x.see(0, 1);
        x.see(0, 2);
        x.see(0, 2);
        Check.due("1 and 2 have it", x.fits(0), 0);
        x.forget(1);
        Check.due("1 has it", x.fits(1), 1);
        Check.due("in two CASES", x.fits(0), 2);
        Check.due("see behind it", x.see(1, -4), 2);
        Check.due("still in two CASES", x.fits(0), 2);
        x.forget(0);
        Check.due("nothing is SEEN", x.fits(0), 8);
    }

    private static void bad() {
        for (int n : new int[] {-1, 3, 6, 7, Integer.MIN_VALUE, Integer.MAX_VALUE}) {
            Twins.bad("forget(" + n + ") of 2", x -> x.forget(n));
        }
        Check.due("forget(1) of none", new ThirdSon().forget(1), -1);
    }
}
