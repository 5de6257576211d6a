/** Promise 22: RULES that GIVE in no CASE, in all, by which nothing is ever anybody's; BAD. */
public final class Promise22DeadTest {
    private Promise22DeadTest() {
    }

    public static void main(String[] args) {
        inNoCase();
        inAllCases();
        nothingIsAnybodys();
        notOnlyWhatIsNow();
        nobodyThere();
        bad();
        Check.close("Promise22DeadTest");
    }

    private static void dead(String why, String text, int never, int always, int idle) {
        ThirdSon x = Check.told(text);
        int[] due = {never, always, idle};
        for (int what = 0; what < 3; what++) {
            Check.due("dead(" + what + "), " + why, x.dead(what), due[what]);
        }
    }

    private static void inNoCase() {
        dead("two are never three", "one;one;rule 1 0 any 0 third;", 1, 0, 1);
        dead("three are so in one CASE", "one;one;one;rule 1 0 any 0 third;", 0, 0, 0);
        dead("six are born 6 in one CASE", "one;one;one;one;one;one;rule 1 0 born 6 last;", 0, 0, 0);
        dead("five never are", "one;one;one;one;one;rule 1 0 born 6 last;", 1, 0, 1);
        dead("all five RULES", "one;rule1 0fact0first;rule1 1kin0first;rule1 2tried1last;"
            + "rule1 3bare1last;rule2 0any0third;", 31, 0, 31);
        dead("in the CASE in which all are GONE alone", "one;one 0;rule 1 0 bare 2 last;", 1, 0, 1);
    }

    private static void inAllCases() {
        dead("but that in which all are GONE", "one;one;rule 1 0 any 0 first;rule 1 1 any 0 last;"
            + "rule 1 2 born 1 last;rule 1 3 tried 0 first;", 0, 15, 0);
        dead("not in just one CASE", "one;one;rule 1 0 born 2 first;rule 1 1 fact 0 last;fact 0 0;",
            0, 0, 0);
        dead("somebody has no child there", "one;one 0;one 0;rule 1 0 bare 0 first;", 0, 1, 0);
        dead("all five RULES", "one;rule1 0any0first;rule1 1born1last;rule1 2tried0last;"
            + "rule1 3bare0last;rule2 0any9first;", 0, 31, 16);
    }

    private static void nothingIsAnybodys() {
        dead("another RULE is ahead in all CASES", "one;one;rule 2 0 any 0 first;rule 1 0 any 0 last;",
            0, 3, 1);
        dead("another THING's RULE is not ahead", "one;one;rule 2 1 any 0 first;rule 1 0 any 0 last;",
            0, 3, 0);
        dead("in one CASE it is not ahead", "one;one 0;rule 1 0 kin 0 first;rule 2 0 bare 1 last;"
            + "rule 3 0 any 0 last;", 0, 4, 2);
        dead("the THING 3", "one;rule 2 3 any 0 first;rule 1 3 any 0 last;", 0, 3, 1);
    }

    private static void notOnlyWhatIsNow() {
        ThirdSon x = Check.told("one;one;one;rule 1 0 any 0 third;rule 2 0 any 0 first;"
            + "rule 3 0 fact 0 last;rule 1 1 fact 0 last;");
        Check.due("dead(0)", x.dead(0), 12);
        x.does(0);
        x.does(6);
        x.does(16);
        x.does(26);
        Check.due("dead(0), all are GONE now", x.dead(0), 0);
        Check.due("dead(1), all are GONE now", x.dead(1), 2);
        Check.due("dead(2), all are GONE now", x.dead(2), 4);
        Check.due("they are GONE as before", x.rule(2), 7);
    }

    private static void nobodyThere() {
        for (int what = 0; what < 3; what++) {
            Check.due("dead(" + what + ") of no RULES", new ThirdSon().dead(what), 0);
        }
        dead("PEOPLE and no RULES", "one;one;", 0, 0, 0);
        // there is no CASE in which somebody is not GONE
        dead("RULES and no PEOPLE", "rule 1 0 any 0 first;rule 2 1 any 0 last;", 3, 3, 3);
    }

    private static void bad() {
        for (int what : new int[] {-1, 3, Integer.MIN_VALUE, Integer.MAX_VALUE}) {
            Twins.bad("dead(" + what + ")", x -> x.dead(what));
        }
        Twins.unchanged("dead(0)", x -> x.dead(0), 4);
        Twins.unchanged("dead(1)", x -> x.dead(1), 2);
        Twins.unchanged("dead(2)", x -> x.dead(2), 5);
    }
}
