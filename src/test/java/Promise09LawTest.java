/** Promise 9: what a RULE tells, who MEET it, to whom it GIVES; BAD. */
public final class Promise09LawTest {
    /** Of 0: 1, 4; of 1: 2; of 2: 3; 5 has no PARENT. */
    private static final String TREE = "one;one 0;one 1;one 2;one 0;one;";

    private Promise09LawTest() {
    }

    public static void main(String[] args) {
        whatIsTold();
        any();
        born();
        fact();
        tried();
        kin();
        bare();
        picksFirst();
        picksThird();
        picksLast();
        bad();
        Check.close("Promise09LawTest");
    }

    private static void whatIsTold() {
        ThirdSon x = Check.told("rule 1 0 any 0 first;rule 9 3 bare 5 last;rule 5 2 born 6 third;"
            + "rule 4 1 any 9 first;");
        int[][] due = {{1, 0, 0, 0, 0, 0, -4}, {9, 3, 5, 5, 2, 0, -4}, {5, 2, 1, 6, 1, 0, -4},
            {4, 1, 0, 9, 0, 0, -4}};
        for (int k = 0; k < 4; k++) {
            for (int what = 0; what <= 6; what++) {
                Check.due("law(" + k + ", " + what + ")", x.law(k, what), due[k][what]);
            }
        }
    }

    private static ThirdSon rule(String claim) {
        return Check.told(TREE + "rule 1 0 " + claim + " first;");
    }

    private static void meet(String when, ThirdSon x, int due) {
        Check.due("who meet " + when, x.law(0, 5), due);
    }

    private static void any() {
        ThirdSon x = rule("any 9");
        meet("any, all there", x, 63);
        x.does(6);
        x.does(56);
        meet("any, 0 and 5 GONE", x, 30);
        for (int p = 1; p < 5; p++) {
            x.does(10 * p + 6);
        }
        meet("any, all GONE", x, 0);
    }

    private static void born() {
        int[] due = {0, 15, 48, 0, 0, 0, 0};
        for (int v = 1; v <= 6; v++) {
            meet("born " + v, rule("born " + v), due[v]);
        }
        ThirdSon x = rule("born 1");
        x.does(16);
        meet("born 1, 1 GONE: 4 is the first child of 0", x, 29);
        x.does(6);
        meet("born 1, 0 GONE: 5 is the first of those who have no PARENT", x, 60);
        ThirdSon six = Check.told("one;one;one;one;one;one;rule 1 0 born 6 first;");
        meet("born 6 of six", six, 32);
        six.does(6);
        meet("born 6 of five", six, 0);
    }

    private static void fact() {
        String facts = "fact 0 0;fact 1 0;fact 2 4;fact 3 4;fact 4 3;";
        int[] due = {3, 0, 0, 16, 12};
        for (int v = 0; v <= 4; v++) {
            ThirdSon x = Check.told(TREE + facts + "rule 1 0 fact " + v + " last;");
            meet("fact " + v, x, due[v]);
            x.does(6);
            x.does(26);
            meet("fact " + v + ", 0 and 2 GONE", x, due[v] & ~5);
            x.comes(0);
            x.hush(0, v);
            meet("fact " + v + ", hushed of 0", x, due[v] & ~5);
            x.does(50 + v);
            meet("fact " + v + ", known of 5", x, due[v] & ~5 | 32);
        }
    }

    private static void tried() {
        int[] due = {63, 14, 12, 8};
        for (int v = 0; v <= 3; v++) {
            ThirdSon x = rule("tried " + v);
            x.tries(1, 1);
            x.tries(2, 2);
            x.tries(3, 3);
            meet("tried " + v + " or more", x, due[v]);
            x.does(36);
            meet("tried " + v + ", 3 GONE", x, due[v] & ~8);
        }
    }

    private static void kin() {
        int[] due = {30, 12, 8, 0, 0, 0};
        for (int v = 0; v <= 5; v++) {
            ThirdSon x = rule("kin " + v);
            meet("kin " + v + ", not himself", x, due[v]);
            x.does(10 * v + 6);
            meet("kin " + v + ", he GONE", x, due[v]);
            x.does(16);
            meet("kin " + v + ", 1 GONE: who is between counts", x, due[v] & ~2);
            x.does(36);
            meet("kin " + v + ", 3 GONE", x, due[v] & ~10);
        }
        ThirdSon line = Check.told("one;one 0;one 1;one 2;one 3;one 4;rule 1 0 kin 0 last;");
        meet("kin 0 of a line of six", line, 62);
    }

    /** All there; 3 GONE; 1 too; 1 back and 4 GONE; 1 too. */
    private static void bare() {
        int[][] due = {{56, 52, 52, 36, 37}, {6, 2, 1, 3, 0}, {1, 1, 0, 0, 0}, {0, 0, 0, 0, 0},
            {0, 0, 0, 0, 0}, {0, 0, 0, 0, 0}};
        for (int v = 0; v <= 5; v++) {
            ThirdSon x = rule("bare " + v);
            meet("bare " + v, x, due[v][0]);
            x.does(36);
            meet("bare " + v + ", 3 GONE", x, due[v][1]);
            x.does(16);
            meet("bare " + v + ", 1 and 3 GONE", x, due[v][2]);
            x.does(46);
            x.comes(1);
            meet("bare " + v + ", 3 and 4 GONE", x, due[v][3]);
            x.does(16);
            meet("bare " + v + ", 1, 3 and 4 GONE", x, due[v][4]);
        }
        ThirdSon five = Check.told("one;one 0;one 0;one 0;one 0;one 0;rule 1 0 bare 5 last;");
        meet("bare 5", five, 1);
        five.does(56);
        meet("bare 5, one GONE", five, 0);
    }

    /** Whom it picks, as one after another goes. */
    private static void picks(String pick, int[] goes, int... due) {
        ThirdSon x = Check.told("one;one;one;one;one;rule 1 0 any 0 " + pick + ";");
        Check.due(pick + " of five", x.law(0, 6), due[0]);
        for (int i = 0; i < goes.length; i++) {
            x.does(10 * goes[i] + 6);
            Check.due(pick + " behind " + (i + 1) + " who went", x.law(0, 6), due[i + 1]);
        }
    }

    private static void picksFirst() {
        picks("first", new int[] {0, 2, 1, 4, 3}, 0, 1, 1, 3, 3, -4);
    }

    private static void picksThird() {
        picks("third", new int[] {0, 2, 1, 4, 3}, 2, 3, 4, -4, -4, -4);
        picks("third", new int[] {4, 3, 0}, 2, 2, 2, -4);
        ThirdSon x = Check.told("one;one;one;one;one;rule 1 0 tried 1 third;");
        x.tries(4, 1);
        x.tries(1, 1);
        Check.due("third of two who meet it", x.law(0, 6), -4);
        x.tries(2, 1);
        Check.due("third of three who meet it", x.law(0, 6), 4);
        x.tries(0, 1);
        Check.due("third of four who meet it", x.law(0, 6), 2);
    }

    private static void picksLast() {
        picks("last", new int[] {4, 2, 3, 0, 1}, 4, 3, 3, 1, 1, -4);
    }

    private static void bad() {
        int[][] bad = {{-1, 0}, {3, 0}, {4, 0}, {5, 0}, {32, 0}, {0, -1}, {0, 7}, {3, 7},
            {Integer.MIN_VALUE, 0}, {Integer.MAX_VALUE, 0}, {0, Integer.MIN_VALUE},
            {0, Integer.MAX_VALUE}};
        for (int[] b : bad) {
            Twins.bad("law(" + b[0] + ", " + b[1] + ")", x -> x.law(b[0], b[1]));
        }
        Twins.unchanged("law(2, 6), it GIVES to nobody", x -> x.law(2, 6), -4);
        Twins.unchanged("law(0, 5)", x -> x.law(0, 5), 9);
        ThirdSon five = Check.told("rule1 0any0last;rule2 0any0last;rule3 0any0last;"
            + "rule4 0any0last;rule5 0any0last;");
        Check.due("the last of five", five.law(4, 0), 5);
        Check.due("no 6th of five", five.law(5, 0), -1);
    }
}
