/** Promise 25: RULES by which a THING is a ONE's in some CASE; BAD. */
public final class Promise25ViaTest {
    private Promise25ViaTest() {
    }

    public static void main(String[] args) {
        inSomeCase();
        byTheLeastRank();
        whoIsGoneNow();
        bad();
        Check.close("Promise25ViaTest");
    }

    private static void inSomeCase() {
        ThirdSon x = Check.told("one;one;one;rule 1 0 any 0 third;rule 2 0 born 2 first;"
            + "rule 3 0 any 0 first;rule 1 3 any 0 last;rule 2 1 any 0 third;");
        int[][] due = {{4, 0, 0, 8}, {6, 0, 0, 8}, {7, 16, 0, 8}};
        for (int p = 0; p < 3; p++) {
            for (int t = 0; t < 4; t++) {
                Check.due("via(" + p + ", " + t + ")", x.via(p, t), due[p][t]);
            }
        }
    }

    private static void byTheLeastRank() {
        ThirdSon x = Check.told("one;one;rule 2 0 any 0 first;rule 1 0 any 0 last;");
        Check.due("the RULE ahead in all CASES", x.via(0, 0), 2);
        Check.due("likewise of 1", x.via(1, 0), 2);
        x.rank(1, 3);
        Check.due("the other RANK", x.via(0, 0), 1);
        ThirdSon five = Check.told("one;rule9 0any0first;rule8 0any0first;rule7 0any0first;"
            + "rule6 0any0first;rule5 0any0first;");
        Check.due("the last of five RULES", five.via(0, 0), 16);
    }

    private static void whoIsGoneNow() {
        ThirdSon x = Check.told("one;one;rule 1 0 any 0 first;gone 0;gone 1;");
        Check.due("via(0, 0), GONE now", x.via(0, 0), 1);
        Check.due("via(1, 0), GONE now", x.via(1, 0), 1);
    }

    private static void bad() {
        int[][] bad = {{-1, 0}, {4, 0}, {5, 0}, {6, 0}, {0, -1}, {0, 4}, {-4, 0}, {0, -4},
            {Integer.MIN_VALUE, 0}, {Integer.MAX_VALUE, 0}, {0, Integer.MIN_VALUE},
            {0, Integer.MAX_VALUE}};
        for (int[] b : bad) {
            Twins.bad("via(" + b[0] + ", " + b[1] + ")", x -> x.via(b[0], b[1]));
        }
        Twins.unchanged("via(1, 0)", x -> x.via(1, 0), 2);
        Twins.unchanged("via(1, 1)", x -> x.via(1, 1), 0);
    }
}
