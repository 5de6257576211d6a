/** Promise 27: THE OWNER of a THING, if all RULES had one PICK; BAD; NONE. */
public final class Promise27TurnTest {
    private Promise27TurnTest() {
    }

    public static void main(String[] args) {
        eachPick();
        allRules();
        nobody();
        bad();
        Check.close("Promise27TurnTest");
    }

    private static void turn(String why, ThirdSon x, int t, int... due) {
        for (int v = 0; v < 3; v++) {
            Check.due("turn(" + v + ", " + t + "), " + why, x.turn(v, t), due[v]);
        }
    }

    private static void eachPick() {
        String[] picks = {"first", "third", "last"};
        for (int pick = 0; pick < 3; pick++) {
            ThirdSon x = Check.told("one;one;one;one;one;one;rule 1 3 any 0 " + picks[pick] + ";");
            turn("it is " + picks[pick], x, 3, 0, 2, 5);
            Check.due("PICK as before", x.law(0, 4), pick);
            x.does(6);
            turn("0 is GONE", x, 3, 1, 3, 5);
            x.does(56);
            x.does(46);
            turn("three are left", x, 3, 1, 3, 3);
            x.does(26);
            turn("two are left", x, 3, 1, -4, 3);
        }
    }

    /** By the third PICK the first RULE gives to nobody, so another one has it by the second. */
    private static void allRules() {
        ThirdSon x = Check.told("one;one;one;fact 0 0;fact 1 0;rule 1 0 fact 0 first;"
            + "rule 2 0 any 0 last;");
        turn("of two RULES", x, 0, 0, 2, 1);
        ThirdSon five = Check.told("one;one;one;one;rule1 0fact0last;rule2 0fact1last;"
            + "rule3 0fact2last;rule4 0fact3last;rule5 0any0last;");
        turn("by the last of five RULES", five, 0, 0, 2, 3);
    }

    private static void nobody() {
        turn("no RULE", Check.told("one;one;one;"), 0, -4, -4, -4);
        turn("nobody there", Check.told("rule 1 0 any 0 first;"), 0, -4, -4, -4);
        turn("nobody there, no RULE", new ThirdSon(), 0, -4, -4, -4);
        turn("two there", Check.told("one;one;rule 1 0 any 0 third;"), 0, 0, -4, 1);
        turn("all GONE", Check.told("one;gone 0;rule 1 0 any 0 third;"), 0, -4, -4, -4);
    }

    private static void bad() {
        int[][] bad = {{-1, 0}, {3, 0}, {0, -1}, {0, 4}, {3, 4}, {Integer.MIN_VALUE, 0},
            {Integer.MAX_VALUE, 0}, {0, Integer.MIN_VALUE}, {0, Integer.MAX_VALUE}};
        for (int[] b : bad) {
            Twins.bad("turn(" + b[0] + ", " + b[1] + ")", x -> x.turn(b[0], b[1]));
        }
        int[] due = {0, 3, 3};
        for (int v = 0; v < 3; v++) {
            int pick = v;
            Twins.unchanged("turn(" + v + ", 0)", x -> x.turn(pick, 0), due[v]);
        }
    }
}
