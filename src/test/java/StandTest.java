/** Promises 6 to 11: what there is. */
public final class StandTest {
    private static final String DUCHY = "one;one 0;one 0;one 0;one;fact 4 1;odds 1 7;odds 2 3;"
        + "rule 1 0 born 3 first;rule 2 0 fact 1 last;rule 3 1 tried 1 third;rule 4 1 kin 0 last;";

    private StandTest() {
    }

    public static void main(String[] args) {
        rule();
        one();
        odd();
        law();
        claims();
        picks();
        owner();
        Check.close("StandTest");
    }

    private static void rule() {
        ThirdSon x = Check.told(DUCHY);
        Check.due("PEOPLE", x.rule(0), 5);
        Check.due("RULES", x.rule(1), 4);
        Check.due("nobody GONE", x.rule(2), 0);
        x.does(6);
        x.does(46);
        Check.due("GONE", x.rule(2), 17);
        Check.due("rule(-1)", x.rule(-1), -1);
        Check.due("rule(3)", x.rule(3), -1);
    }

    private static void one() {
        ThirdSon x = Check.told(DUCHY);
        int[][] due = {{-4, 0, 0, 0, 1, 3}, {0, 0, 0, 0, 1, 0}, {0, 0, 0, 0, 2, 0},
            {0, 0, 0, 0, 3, 0}, {-4, 2, 0, 0, 2, 0}};
        look(x, "first", due);
        x.does(16);
        x.does(6);
        x.does(33);
        int[][] then = {{-4, 0, 0, 1, 0, 2}, {0, 0, 0, 1, 0, 0}, {0, 0, 0, 0, 1, 0},
            {0, 8, 1, 0, 2, 0}, {-4, 2, 0, 0, 1, 0}};
        look(x, "then", then);
        Check.due("one(5, 0)", x.one(5, 0), -1);
        Check.due("one(-1, 0)", x.one(-1, 0), -1);
        Check.due("one(0, 6)", x.one(0, 6), -1);
        Check.due("one(0, -1)", x.one(0, -1), -1);
    }

    private static void look(ThirdSon x, String when, int[][] due) {
        for (int p = 0; p < due.length; p++) {
            for (int what = 0; what < due[p].length; what++) {
                Check.due(when + ": one(" + p + ", " + what + ")", x.one(p, what), due[p][what]);
            }
        }
    }

    private static void odd() {
        ThirdSon x = Check.told(DUCHY);
        int[] due = {5, 7, 3, 5, 5};
        for (int f = 0; f < 5; f++) {
            Check.due("odd(" + f + ")", x.odd(f), due[f]);
        }
        Check.due("odd(-1)", x.odd(-1), -1);
        Check.due("odd(5)", x.odd(5), -1);
    }

    private static void law() {
        ThirdSon x = Check.told(DUCHY);
        int[][] due = {{1, 0, 1, 3, 0, 8, 3}, {2, 0, 2, 1, 2, 16, 4}, {3, 1, 3, 1, 1, 0, -4},
            {4, 1, 4, 0, 2, 14, 3}};
        for (int k = 0; k < 4; k++) {
            for (int what = 0; what <= 6; what++) {
                Check.due("law(" + k + ", " + what + ")", x.law(k, what), due[k][what]);
            }
        }
        Check.due("law(4, 0)", x.law(4, 0), -1);
        Check.due("law(-1, 0)", x.law(-1, 0), -1);
        Check.due("law(0, 7)", x.law(0, 7), -1);
        Check.due("law(0, -1)", x.law(0, -1), -1);
    }

    /** Of 0: 1, 4; of 1: 2; of 2: 3; 5 has no parent. */
    private static void claims() {
        String people = "one;one 0;one 1;one 2;one 0;one;fact 1 4;fact 3 4;";
        meet(people, "any 9", 63, 61);
        meet(people, "born 1", 15, 29);
        meet(people, "born 2", 48, 32);
        meet(people, "born 3", 0, 0);
        meet(people, "fact 4", 10, 8);
        meet(people, "fact 3", 0, 0);
        meet(people, "tried 0", 63, 61);
        meet(people, "tried 2", 24, 24);
        meet(people, "tried 3", 16, 16);
        meet(people, "kin 0", 30, 28);
        meet(people, "kin 1", 12, 12);
        meet(people, "kin 2", 8, 8);
        meet(people, "kin 3", 0, 0);
        meet(people, "bare 0", 56, 56);
        meet(people, "bare 1", 6, 5);
        meet(people, "bare 2", 1, 0);
    }

    /** Who meets a claim, then with 1 gone. */
    private static void meet(String people, String claim, int all, int without) {
        ThirdSon x = Check.told(people + "rule 1 0 " + claim + " first;");
        x.tries(3, 2);
        x.tries(4, 3);
        Check.due("who meet " + claim, x.law(0, 5), all);
        x.does(16);
        Check.due("who meet " + claim + ", 1 gone", x.law(0, 5), without);
    }

    private static void picks() {
        for (int v = 0; v < 3; v++) {
            String name = v == 0 ? "first" : v == 1 ? "third" : "last";
            ThirdSon x = Check.told("one;one;one;one;one;rule 1 0 any 0 " + name + ";");
            int[][] due = {{0, 1, 1, 3, 3, -4}, {2, 3, 4, -4, -4, -4}, {4, 4, 4, 4, 3, -4}};
            int[] goes = {6, 26, 16, 46, 36};
            Check.due(name + " of all", x.law(0, 6), due[v][0]);
            for (int i = 0; i < 5; i++) {
                x.does(goes[i]);
                Check.due(name + " behind " + (i + 1), x.law(0, 6), due[v][i + 1]);
                Check.due(name + ": owner behind " + (i + 1), x.owner(0), due[v][i + 1]);
            }
        }
    }

    private static void owner() {
        ThirdSon x = Check.told(DUCHY);
        int[] owners = {3, 3, -4, -4};
        int[] rules = {0, 3, -4, -4};
        for (int t = 0; t < 4; t++) {
            Check.due("owner(" + t + ")", x.owner(t), owners[t]);
            Check.due("by(" + t + ")", x.by(t), rules[t]);
        }
        Check.due("owner(-1)", x.owner(-1), -1);
        Check.due("owner(4)", x.owner(4), -1);
        Check.due("by(-1)", x.by(-1), -1);
        Check.due("by(4)", x.by(4), -1);
        // the rule of the least rank, not the first one told
        ThirdSon y = Check.told("one;one;rule 9 0 any 0 first;rule 2 0 any 0 last;"
            + "rule 1 0 any 0 third;rule 5 0 any 0 first;rule 1 1 any 0 first;");
        Check.due("owner by the least rank", y.owner(0), 1);
        Check.due("by the least rank that gives", y.by(0), 1);
        y.does(16);
        Check.due("owner when 1 is gone", y.owner(0), 0);
        y.does(6);
        Check.due("owner when all are gone", y.owner(0), -4);
        Check.due("by when all are gone", y.by(0), -4);
    }
}
