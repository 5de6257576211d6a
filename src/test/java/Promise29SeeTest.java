/** Promise 29: a THING and its OWNER (NONE: nobody) are SEEN: how many are; BAD; FULL. */
public final class Promise29SeeTest {
    private Promise29SeeTest() {
    }

    public static void main(String[] args) {
        sixAtMost();
        nobodysToo();
        whateverIsNow();
        bad();
        Check.close("Promise29SeeTest");
    }

    private static void four(ThirdSon x) {
        for (int i = 0; i < 4; i++) {
            x.see(3, -4);
        }
    }

    private static void sixAtMost() {
        ThirdSon x = Check.told("one;");
        for (int n = 1; n <= 6; n++) {
            Check.due("see, the " + n, x.see(n % 4, 0), n);
        }
        Check.due("see, the 7th", x.see(0, 0), -3);
        Check.due("SEEN", x.count(0), 6);
        x.forget(5);
        Check.due("see behind forget(5)", x.see(0, 0), 6);
        Check.due("see behind that", x.see(0, 0), -3);
        Check.tell(x, "one;");
        Check.due("see behind a text", x.see(0, 0), 1);
        Twins.unchanged("see(0, 3), the 7th", Promise29SeeTest::four, y -> y.see(0, 3), -3);
        Twins.unchanged("see(1, -4), the 7th", Promise29SeeTest::four, y -> y.see(1, -4), -3);
    }

    private static void nobodysToo() {
        ThirdSon x = Check.told("one;one;rule 1 0 any 0 first;");
        Check.due("see(0, -4)", x.see(0, -4), 1);
        Check.due("nobody has it when all are GONE", x.fits(1), 3);
        x.forget(0);
        Check.due("see(0, 1)", x.see(0, 1), 1);
        Check.due("1 has it when 0 is GONE", x.fits(1), 1);
        ThirdSon none = new ThirdSon();
        Check.due("see(3, -4), nobody there", none.see(3, -4), 1);
        Check.due("see(3, 0), nobody there", none.see(3, 0), -1);
    }

    /** It need not be so now, nor in any CASE. */
    private static void whateverIsNow() {
        ThirdSon x = Check.told("one;one;gone 1;rule 1 0 any 0 first;");
        Check.due("of one who is GONE", x.see(0, 1), 1);
        Check.due("of another THING", x.see(3, 1), 2);
        Check.due("the same again", x.see(3, 1), 3);
    }

    private static void bad() {
        int[][] bad = {{-1, 0}, {4, 0}, {0, -1}, {0, -2}, {0, -3}, {0, -5}, {0, 4}, {0, 5}, {0, 6},
            {-1, -4}, {4, -4}, {Integer.MIN_VALUE, 0}, {Integer.MAX_VALUE, 0},
            {0, Integer.MIN_VALUE}, {0, Integer.MAX_VALUE}};
        for (int[] b : bad) {
            String call = "see(" + b[0] + ", " + b[1] + ")";
            Twins.bad(call, x -> x.see(b[0], b[1]));
            Twins.unchanged(call + ", BAD ahead of FULL", Promise29SeeTest::four,
                x -> x.see(b[0], b[1]), -1);
        }
    }
}
