/** Promises 22 to 27: what holds in all cases. */
public final class CaseTest {
    private static final String DUCHY = "one;one 0;one 0;one 0;one;fact 4 1;odds 1 7;odds 2 3;"
        + "rule 1 0 born 3 first;rule 2 0 fact 1 last;rule 3 1 tried 1 third;rule 4 1 kin 0 last;";

    private CaseTest() {
    }

    public static void main(String[] args) {
        dead();
        least();
        who();
        via();
        odds();
        turn();
        Check.close("CaseTest");
    }

    private static void deadOf(String text, int never, int always, int idle) {
        ThirdSon x = Check.told(text);
        Check.due("dead(0) of " + text, x.dead(0), never);
        Check.due("dead(1) of " + text, x.dead(1), always);
        Check.due("dead(2) of " + text, x.dead(2), idle);
    }

    private static void dead() {
        deadOf(DUCHY, 4, 0, 4);
        deadOf("one;one;rule 1 0 any 0 first;rule 2 0 any 0 last;rule 3 1 any 0 third;", 4, 3, 6);
        deadOf("one;one;gone 0;gone 1;rule 1 0 any 0 first;rule 2 0 fact 0 first;", 2, 1, 2);
        deadOf("one;one 0;rule 2 0 any 0 last;rule 1 0 tried 0 last;rule 3 0 bare 1 last;"
            + "rule 4 1 kin 0 last;", 0, 3, 5);
        deadOf("one;rule 1 0 fact 0 first;", 1, 0, 1);
        // what gives in just one case, and what fails in just that one
        deadOf("one;one;one;rule 1 0 born 3 last;rule 2 1 any 0 third;", 0, 0, 0);
        deadOf("one;one 0;one 0;rule 1 0 bare 1 last;rule 2 0 bare 0 first;", 0, 2, 0);
        // with nobody there is no case in which somebody is not gone
        deadOf("rule 1 0 any 0 first;rule 2 0 fact 0 last;", 3, 3, 3);
        ThirdSon x = Check.told(DUCHY);
        Check.due("dead(3)", x.dead(3), -1);
        Check.due("dead(-1)", x.dead(-1), -1);
        Check.due("dead changes nothing", x.rule(2), 0);
    }

    private static void leastOf(String text, int many, int set) {
        ThirdSon x = Check.told(text);
        Check.due("least(0) of " + text, x.least(0), many);
        Check.due("least(1) of " + text, x.least(1), set);
    }

    private static void least() {
        leastOf(DUCHY, 3, 11);
        leastOf("one;one;rule 1 0 any 0 first;rule 2 0 any 0 last;rule 3 1 any 0 third;", 1, 1);
        leastOf("one;rule 2 0 any 0 first;rule 1 0 tried 0 first;", 1, 1);
        leastOf("one;rule 2 0 any 0 first;rule 1 0 fact 0 first;rule 3 1 any 0 last;", 2, 5);
        leastOf("one;one;fact 0 1;rule 3 2 any 0 last;rule 2 2 born 1 last;rule 1 2 fact 1 last;",
            1, 2);
        leastOf("rule 1 0 any 0 first;", 0, 0);
        leastOf("one;", 0, 0);
        leastOf("one;one;one;rule 1 0 born 3 last;rule 2 0 born 2 last;rule 3 0 born 1 last;", 3, 7);
        ThirdSon x = Check.told(DUCHY);
        Check.due("least(2)", x.least(2), -1);
        Check.due("least(-1)", x.least(-1), -1);
    }

    private static void who() {
        ThirdSon x = Check.told(DUCHY);
        int[] due = {24, 14, 0, 0};
        for (int t = 0; t < 4; t++) {
            Check.due("who(" + t + ")", x.who(t), due[t]);
        }
        x.does(46);
        Check.due("who(0), who is GONE is not in a case", x.who(0), 24);
        x.tries(0, 1);
        x.tries(2, 1);
        x.tries(4, 1);
        Check.due("who(1) by TRIES", x.who(1), 30);
        ThirdSon y = Check.told("one;one;one;rule 1 3 any 0 third;");
        Check.due("who(3) in one case", y.who(3), 4);
        Check.due("via(2, 3) in one case", y.via(2, 3), 1);
        Check.due("via(1, 3) in none", y.via(1, 3), 0);
        Check.due("who(-1)", x.who(-1), -1);
        Check.due("who(4)", x.who(4), -1);
    }

    private static void via() {
        ThirdSon x = Check.told(DUCHY);
        int[][] due = {{0, 0}, {0, 8}, {0, 8}, {1, 8}, {2, 0}};
        for (int p = 0; p < 5; p++) {
            for (int t = 0; t < 2; t++) {
                Check.due("via(" + p + ", " + t + ")", x.via(p, t), due[p][t]);
            }
        }
        x.does(31);
        Check.due("via(3, 0) by two rules", x.via(3, 0), 3);
        Check.due("via(5, 0)", x.via(5, 0), -1);
        Check.due("via(-1, 0)", x.via(-1, 0), -1);
        Check.due("via(0, 4)", x.via(0, 4), -1);
        Check.due("via(0, -1)", x.via(0, -1), -1);
    }

    private static void oddsOf(ThirdSon x, int v, int p, int t, long above, long below) {
        String call = "odds(" + v + ", " + p + ", " + t + ", ";
        Check.due(call + "0)", x.odds(v, p, t, 0), above);
        Check.due(call + "1)", x.odds(v, p, t, 1), below);
    }

    private static void odds() {
        ThirdSon x = Check.told("one;one;rule 1 0 any 0 first;");
        oddsOf(x, 3, 0, 0, 7, 10);
        oddsOf(x, 3, 1, 0, 21, 100);
        oddsOf(x, 5, 1, 0, 1, 4);
        oddsOf(x, 0, 0, 0, 1, 1);
        oddsOf(x, 0, 1, 0, 0, 1);
        oddsOf(x, 10, 0, 0, 0, 1);
        oddsOf(x, 3, 0, 1, 0, 1);
        x.does(6);
        oddsOf(x, 3, 1, 0, 7, 10);
        oddsOf(x, 3, 0, 0, 0, 1);
        x.does(16);
        oddsOf(x, 3, 1, 0, 0, 1);
        Check.due("odds change nothing", x.rule(2), 3);
        ThirdSon y = Check.told("one;one;one;one;one;one;rule 1 0 any 0 last;");
        oddsOf(y, 9, 0, 0, 59049, 1000000);
        oddsOf(y, 1, 5, 0, 9, 10);
        oddsOf(y, 1, 4, 0, 9, 100);
        ThirdSon z = Check.told("one;one 0;one 0;one 0;rule 1 0 born 3 first;rule 2 0 bare 0 last;");
        oddsOf(z, 2, 3, 0, 4, 5);
        int[][] bad = {{-1, 0, 0, 0}, {11, 0, 0, 0}, {5, 4, 0, 0}, {5, -1, 0, 0}, {5, 0, 4, 0},
            {5, 0, -1, 0}, {5, 0, 0, 2}, {5, 0, 0, -1}};
        for (int[] b : bad) {
            Check.due("odds(" + b[0] + ", " + b[1] + ", " + b[2] + ", " + b[3] + ")",
                z.odds(b[0], b[1], b[2], b[3]), -1);
        }
    }

    private static void turn() {
        ThirdSon x = Check.told(DUCHY);
        int[][] due = {{3, 1, -4, -4}, {-4, 3, -4, -4}, {3, 3, -4, -4}};
        for (int v = 0; v < 3; v++) {
            for (int t = 0; t < 4; t++) {
                Check.due("turn(" + v + ", " + t + ")", x.turn(v, t), due[v][t]);
            }
        }
        Check.due("PICKS are as before", x.law(0, 4) + 10 * x.law(2, 4) + 100 * x.law(3, 4), 210);
        x.does(36);
        Check.due("turn(0, 0), 3 gone", x.turn(0, 0), 4);
        Check.due("turn(1, 1), 3 gone", x.turn(1, 1), -4);
        Check.due("turn(3, 0)", x.turn(3, 0), -1);
        Check.due("turn(-1, 0)", x.turn(-1, 0), -1);
        Check.due("turn(0, 4)", x.turn(0, 4), -1);
        Check.due("turn(0, -1)", x.turn(0, -1), -1);
    }
}
