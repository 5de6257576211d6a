/** Promise 10: THE OWNER of a THING; BAD; NONE: nobody. */
public final class Promise10OwnerTest {
    private Promise10OwnerTest() {
    }

    public static void main(String[] args) {
        theLeastRank();
        whichGivesIt();
        nobody();
        eachThing();
        bad();
        Check.close("Promise10OwnerTest");
    }

    private static void theLeastRank() {
        ThirdSon x = Check.told("one;one;one;rule 5 0 any 0 first;rule 4 0 any 0 last;"
            + "rule 9 0 born 2 first;");
        Check.due("not by the first RULE told", x.owner(0), 2);
        x.rank(0, 3);
        Check.due("by the first RULE of RANK 3", x.owner(0), 0);
        x.rank(2, 1);
        Check.due("by the last RULE of RANK 1", x.owner(0), 1);
    }

    private static void whichGivesIt() {
        ThirdSon x = Check.told("one;one;rule 1 0 any 0 third;rule 2 0 fact 0 first;"
            + "rule 3 0 born 2 first;rule 4 0 any 0 first;");
        Check.due("two RULES that give to nobody", x.owner(0), 1);
        x.does(16);
        Check.due("three RULES that give to nobody", x.owner(0), 0);
        x.does(0);
        Check.due("the second gives now", x.owner(0), 0);
        x.comes(1);
        Check.due("to 0, 1 being there", x.owner(0), 0);
    }

    private static void nobody() {
        ThirdSon x = Check.told("one;one;rule 1 0 any 0 third;");
        Check.due("two of three", x.owner(0), -4);
        Check.due("no RULE", x.owner(1), -4);
        ThirdSon y = Check.told("one;rule 1 0 any 0 first;");
        y.does(6);
        Check.due("all are GONE", y.owner(0), -4);
        ThirdSon z = Check.told("rule 1 0 any 0 first;");
        Check.due("nobody is there", z.owner(0), -4);
    }

    private static void eachThing() {
        ThirdSon x = Check.told("one;one;one;one;rule 1 3 any 0 first;rule 1 2 born 2 first;"
            + "rule 1 1 born 3 first;rule 1 0 any 0 last;");
        for (int t = 0; t < 4; t++) {
            Check.due("owner(" + t + ")", x.owner(t), 3 - t);
        }
    }

    private static void bad() {
        for (int t : new int[] {-1, 4, 32, Integer.MIN_VALUE, Integer.MAX_VALUE}) {
            Twins.bad("owner(" + t + ")", x -> x.owner(t));
        }
        Twins.unchanged("owner(0)", x -> x.owner(0), 3);
        Twins.unchanged("owner(1), nobody", x -> x.owner(1), -4);
    }
}
