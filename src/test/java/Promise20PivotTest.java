/** Promise 20: each who, did he alone go, would make THE OWNER another one (or nobody); BAD. */
public final class Promise20PivotTest {
    private Promise20PivotTest() {
    }

    public static void main(String[] args) {
        anotherOne();
        nobody();
        fromNobody();
        heAlone();
        whoIsGone();
        bad();
        Check.close("Promise20PivotTest");
    }

    private static void pivot(String why, String text, int... due) {
        ThirdSon x = Check.told(text);
        for (int t = 0; t < due.length; t++) {
            Check.due("pivot(" + t + "), " + why, x.pivot(t), due[t]);
        }
    }

    private static void anotherOne() {
        pivot("first, third, last, none", "one;one;one;one;one;one;rule 1 0 any 0 first;"
            + "rule 1 1 any 0 third;rule 1 2 any 0 last;", 1, 7, 32, 0);
        pivot("by another RULE to the same one: no other OWNER",
            "one;one;one;rule 1 0 born 3 first;rule 2 0 any 0 last;", 4);
    }

    private static void nobody() {
        pivot("the third of three", "one;one;one;rule 1 0 any 0 third;", 7);
        pivot("the only one", "one;rule 1 3 any 0 first;", 0, 0, 0, 1);
        pivot("the second of two", "one;one;rule 1 0 born 2 first;", 3);
    }

    private static void fromNobody() {
        pivot("one child less", "one;one 0;one 0;rule 1 0 bare 1 first;", 6);
        pivot("nobody it is, nobody it stays", "one;one;rule 1 0 any 0 third;", 0);
    }

    private static void heAlone() {
        // 0 has it only when both his children are GONE
        pivot("two together are not one", "one;one 0;one 0;rule 1 0 bare 0 first;", 2);
        pivot("each who is ahead", "one;one;one;one;rule 1 0 born 3 last;rule 2 0 any 0 first;", 7);
    }

    private static void whoIsGone() {
        ThirdSon x = Check.told("one;one;one;one;rule 1 0 any 0 third;rule 1 1 any 0 first;gone 0;");
        Check.due("pivot(0), 0 is GONE", x.pivot(0), 14);
        Check.due("pivot(1), 0 is GONE", x.pivot(1), 2);
        x.does(16);
        Check.due("pivot(0), two are left", x.pivot(0), 0);
        x.does(26);
        Check.due("pivot(1), one is left", x.pivot(1), 8);
        x.does(36);
        Check.due("pivot(1), all are GONE", x.pivot(1), 0);
        Check.due("pivot(0) of nobody", new ThirdSon().pivot(0), 0);
    }

    private static void bad() {
        for (int t : new int[] {-1, 4, 32, Integer.MIN_VALUE, Integer.MAX_VALUE}) {
            Twins.bad("pivot(" + t + ")", x -> x.pivot(t));
        }
        Twins.unchanged("pivot(0)", x -> x.pivot(0), 8);
    }
}
