/** Promise 11: the RULE by which a THING is his; BAD; NONE: it is nobody's. */
public final class Promise11ByTest {
    private Promise11ByTest() {
    }

    public static void main(String[] args) {
        theLeastRank();
        nobodys();
        bad();
        Check.close("Promise11ByTest");
    }

    private static void theLeastRank() {
        ThirdSon x = Check.told("one;one;rule 9 0 any 0 first;rule 5 0 any 0 first;"
            + "rule 1 0 any 0 third;rule 2 0 born 2 first;rule 1 3 any 0 first;");
        Check.due("by(0)", x.by(0), 3);
        Check.due("by(3)", x.by(3), 4);
        x.does(6);
        Check.due("by(0), no second one", x.by(0), 1);
        x.rank(0, 4);
        Check.due("by(0), another RANK", x.by(0), 0);
    }

    private static void nobodys() {
        ThirdSon x = Check.told("one;one;rule 1 0 any 0 third;rule 2 0 fact 1 last;"
            + "rule 1 1 any 0 first;");
        Check.due("RULES that give to nobody", x.by(0), -4);
        Check.due("no RULE", x.by(2), -4);
        Check.due("the last RULE", x.by(1), 2);
        x.does(6);
        x.does(16);
        Check.due("all are GONE", x.by(1), -4);
    }

    private static void bad() {
        for (int t : new int[] {-1, 4, 32, Integer.MIN_VALUE, Integer.MAX_VALUE}) {
            Twins.bad("by(" + t + ")", x -> x.by(t));
        }
        Twins.unchanged("by(0)", x -> x.by(0), 1);
        Twins.unchanged("by(1), nobody's", x -> x.by(1), -4);
    }
}
