/** Promise 26: how likely a ONE is the OWNER when each goes by v out of ten; BAD. */
public final class Promise26OddsTest {
    private Promise26OddsTest() {
    }

    public static void main(String[] args) {
        nobodyGoesAllGo();
        lowestTerms();
        byHimself();
        whoIsGoneStaysSo();
        sixPeople();
        bad();
        Check.close("Promise26OddsTest");
    }

    private static void odds(String why, ThirdSon x, int v, int p, int t, long above, long below) {
        String call = why + ": odds(" + v + ", " + p + ", " + t + ", ";
        Check.due(call + "0)", x.odds(v, p, t, 0), above);
        Check.due(call + "1)", x.odds(v, p, t, 1), below);
    }

    private static void nobodyGoesAllGo() {
        ThirdSon x = Check.told("one;one;rule 1 0 any 0 first;");
        odds("nobody goes", x, 0, 0, 0, 1, 1);
        odds("nobody goes", x, 0, 1, 0, 0, 1);
        odds("all go", x, 10, 0, 0, 0, 1);
        odds("all go", x, 10, 1, 0, 0, 1);
        odds("no RULE", x, 5, 0, 1, 0, 1);
        // who has it when the other goes for sure does not have it when both go
        ThirdSon y = Check.told("one;one 0;rule 1 0 bare 0 first;gone 1;");
        odds("one alone, all go", y, 10, 0, 0, 0, 1);
        odds("one alone, nobody goes", y, 0, 0, 0, 1, 1);
    }

    private static void lowestTerms() {
        ThirdSon x = Check.told("one;rule 1 0 any 0 first;");
        long[][] due = {{1, 1}, {9, 10}, {4, 5}, {7, 10}, {3, 5}, {1, 2}, {2, 5}, {3, 10}, {1, 5},
            {1, 10}, {0, 1}};
        for (int v = 0; v <= 10; v++) {
            odds("he stays", x, v, 0, 0, due[v][0], due[v][1]);
        }
        ThirdSon y = Check.told("one;one;rule 1 0 any 0 first;");
        long[][] then = {{0, 1}, {9, 100}, {4, 25}, {21, 100}, {6, 25}, {1, 4}, {6, 25}, {21, 100},
            {4, 25}, {9, 100}, {0, 1}};
        for (int v = 0; v <= 10; v++) {
            odds("he stays, the other goes", y, v, 1, 0, then[v][0], then[v][1]);
        }
    }

    /** Each goes or stays whatever the others do: in eight CASES of three. */
    private static void byHimself() {
        ThirdSon x = Check.told("one;one;one;rule 1 0 any 0 third;rule 2 0 born 2 first;"
            + "rule 1 1 any 0 last;");
        odds("all three stay, or 2 and one more", x, 1, 2, 0, 891, 1000);
        odds("1 and 0 stay, 2 goes", x, 1, 1, 0, 81, 1000);
        odds("never", x, 1, 0, 0, 0, 1);
        odds("2 stays", x, 3, 2, 1, 7, 10);
        odds("1 stays, 2 goes", x, 3, 1, 1, 21, 100);
        odds("0 stays, both others go", x, 3, 0, 1, 63, 1000);
    }

    private static void whoIsGoneStaysSo() {
        ThirdSon x = Check.told("one;one;one;rule 1 0 any 0 first;gone 0;");
        odds("0 is GONE", x, 3, 0, 0, 0, 1);
        odds("0 is GONE", x, 3, 1, 0, 7, 10);
        odds("0 is GONE", x, 3, 2, 0, 21, 100);
        odds("0 is GONE, nobody goes", x, 0, 1, 0, 1, 1);
        x.does(16);
        x.does(26);
        odds("all are GONE", x, 3, 2, 0, 0, 1);
        odds("all are GONE, nobody goes", x, 0, 2, 0, 0, 1);
    }

    private static void sixPeople() {
        ThirdSon x = Check.told("one;one;one;one;one;one;rule 1 0 any 0 first;rule 1 1 born 6 first;");
        odds("the last of six alone stays", x, 9, 5, 0, 59049, 1000000);
        odds("the last of six alone stays", x, 5, 5, 0, 1, 64);
        odds("the last of six alone stays", x, 3, 5, 0, 1701, 1000000);
        odds("all six stay", x, 1, 5, 1, 531441, 1000000);
        odds("all six stay", x, 9, 5, 1, 1, 1000000);
        odds("all six stay", x, 4, 5, 1, 729, 15625);
    }

    private static void bad() {
        int[][] bad = {{-1, 0, 0, 0}, {11, 0, 0, 0}, {5, -1, 0, 0}, {5, 4, 0, 0}, {5, 5, 0, 0},
            {5, 6, 0, 0}, {5, -4, 0, 0}, {5, 0, -1, 0}, {5, 0, 4, 0}, {5, 0, 0, -1}, {5, 0, 0, 2},
            {Integer.MIN_VALUE, 0, 0, 0}, {Integer.MAX_VALUE, 0, 0, 0}, {5, Integer.MIN_VALUE, 0, 0},
            {5, Integer.MAX_VALUE, 0, 0}, {5, 0, Integer.MIN_VALUE, 0}, {5, 0, Integer.MAX_VALUE, 0},
            {5, 0, 0, Integer.MIN_VALUE}, {5, 0, 0, Integer.MAX_VALUE}};
        for (int[] b : bad) {
            Twins.bad("odds(" + b[0] + ", " + b[1] + ", " + b[2] + ", " + b[3] + ")",
                x -> x.odds(b[0], b[1], b[2], b[3]));
        }
        Twins.unchanged("odds(5, 3, 0, 1)", x -> x.odds(5, 3, 0, 1), 2);
        Twins.unchanged("odds(5, 0, 3, 1), 0 by 1", x -> x.odds(5, 0, 3, 1), 1);
    }
}
