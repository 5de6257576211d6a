/** Promises 12 to 18: what is changed. */
public final class ChangeTest {
    private ChangeTest() {
    }

    public static void main(String[] args) {
        does();
        comes();
        tries();
        hush();
        weigh();
        rank();
        pick();
        Check.close("ChangeTest");
    }

    private static void does() {
        ThirdSon x = Check.told("one;one;one;fact 2 3;gone 1;");
        int[] bad = {-1, -6, -10, 7, 8, 9, 17, 27, 30, 36, 60, Integer.MAX_VALUE,
            Integer.MIN_VALUE};
        for (int deed : bad) {
            Check.due("does(" + deed + ")", x.does(deed), -1);
        }
        Check.due("a deed of a GONE one", x.does(10), -2);
        Check.due("a GONE one fails", x.does(15), -2);
        Check.due("a GONE one goes", x.does(16), -2);
        Check.due("a FACT that is known", x.does(23), -2);
        Check.due("nobody has tried", x.count(6), 0);
        Check.due("does(4)", x.does(4), 1);
        Check.due("does(4) again", x.does(4), -2);
        Check.due("does(0)", x.does(0), 2);
        Check.due("FACTS of 0", x.one(0, 1), 17);
        Check.due("does(5)", x.does(5), 3);
        Check.due("FACTS behind a fail", x.one(0, 1), 17);
        Check.due("does(5) with 3 TRIES", x.does(5), -2);
        Check.due("does(1) with 3 TRIES", x.does(1), -2);
        Check.due("FACTS behind what is refused", x.one(0, 1), 17);
        Check.due("does(6) with 3 TRIES", x.does(6), 3);
        Check.due("GONE", x.rule(2), 3);
        Check.due("does(25)", x.does(25), 1);
        Check.due("does(26)", x.does(26), 1);
        Check.due("all are GONE", x.rule(2), 7);
    }

    private static void comes() {
        ThirdSon x = Check.told("one;one;fact 1 2;gone 1;");
        x.tries(1, 2);
        Check.due("comes(1)", x.comes(1), 1);
        Check.due("comes(1) again", x.comes(1), 0);
        Check.due("comes(0)", x.comes(0), 0);
        Check.due("nobody is GONE", x.rule(2), 0);
        Check.due("his FACTS", x.one(1, 1), 4);
        Check.due("his TRIES", x.one(1, 2), 2);
        Check.due("comes(2)", x.comes(2), -1);
        Check.due("comes(-1)", x.comes(-1), -1);
    }

    private static void tries() {
        ThirdSon x = Check.told("one;one;gone 1;");
        Check.due("tries(0, 3)", x.tries(0, 3), 0);
        Check.due("tries(0, 1)", x.tries(0, 1), 3);
        Check.due("tries(1, 2)", x.tries(1, 2), 0);
        Check.due("tries(0, 4)", x.tries(0, 4), -1);
        Check.due("tries(0, -1)", x.tries(0, -1), -1);
        Check.due("tries(2, 0)", x.tries(2, 0), -1);
        Check.due("tries(-1, 0)", x.tries(-1, 0), -1);
        Check.due("TRIES of 0", x.one(0, 2), 1);
        Check.due("TRIES of 1", x.one(1, 2), 2);
        Check.due("tries(0, 0)", x.tries(0, 0), 1);
    }

    private static void hush() {
        ThirdSon x = Check.told("one;one;fact 0 0;fact 0 4;fact 1 0;gone 1;");
        Check.due("hush(0, 4)", x.hush(0, 4), 1);
        Check.due("hush(0, 4) again", x.hush(0, 4), 0);
        Check.due("hush(1, 3)", x.hush(1, 3), 0);
        Check.due("hush(0, 0)", x.hush(0, 0), 1);
        Check.due("hush(1, 0)", x.hush(1, 0), 1);
        Check.due("FACTS of 0", x.one(0, 1), 0);
        Check.due("FACTS of 1", x.one(1, 1), 0);
        Check.due("TRIES of 0", x.one(0, 2), 0);
        Check.due("hush(0, 5)", x.hush(0, 5), -1);
        Check.due("hush(0, -1)", x.hush(0, -1), -1);
        Check.due("hush(2, 0)", x.hush(2, 0), -1);
        Check.due("hush(-1, 0)", x.hush(-1, 0), -1);
    }

    private static void weigh() {
        ThirdSon x = Check.told("odds 2 8;");
        Check.due("weigh(2, 10)", x.weigh(2, 10), 8);
        Check.due("weigh(2, 0)", x.weigh(2, 0), 10);
        Check.due("weigh(0, 6)", x.weigh(0, 6), 5);
        Check.due("weigh(0, 11)", x.weigh(0, 11), -1);
        Check.due("weigh(0, -1)", x.weigh(0, -1), -1);
        Check.due("weigh(5, 1)", x.weigh(5, 1), -1);
        Check.due("weigh(-1, 1)", x.weigh(-1, 1), -1);
        Check.due("odd(0)", x.odd(0), 6);
        Check.due("odd(2)", x.odd(2), 0);
    }

    private static void rank() {
        ThirdSon x = Check.told("one;one;rule 2 0 any 0 first;rule 5 0 any 0 last;"
            + "rule 3 1 any 0 last;");
        Check.due("owner ahead", x.owner(0), 0);
        Check.due("rank(0, 5)", x.rank(0, 5), -2);
        Check.due("rank(0, 2), its own", x.rank(0, 2), 2);
        Check.due("rank(0, 3), of another THING", x.rank(0, 3), 2);
        Check.due("rank(0, 1)", x.rank(0, 1), 3);
        Check.due("rank(0, 9)", x.rank(0, 9), 1);
        Check.due("owner behind", x.owner(0), 1);
        Check.due("RANK", x.law(0, 0), 9);
        Check.due("rank(1, 9)", x.rank(1, 9), -2);
        Check.due("rank(0, 10)", x.rank(0, 10), -1);
        Check.due("rank(0, 0)", x.rank(0, 0), -1);
        Check.due("rank(3, 1)", x.rank(3, 1), -1);
        Check.due("rank(-1, 1)", x.rank(-1, 1), -1);
        Check.due("RANK stays", x.law(0, 0), 9);
    }

    private static void pick() {
        ThirdSon x = Check.told("one;one;one;one;rule 1 0 any 0 first;");
        Check.due("pick(0, 1)", x.pick(0, 1), 0);
        Check.due("owner: third", x.owner(0), 2);
        Check.due("pick(0, 2)", x.pick(0, 2), 1);
        Check.due("owner: last", x.owner(0), 3);
        Check.due("pick(0, 0)", x.pick(0, 0), 2);
        Check.due("owner: first", x.owner(0), 0);
        Check.due("pick(0, 3)", x.pick(0, 3), -1);
        Check.due("pick(0, -1)", x.pick(0, -1), -1);
        Check.due("pick(1, 0)", x.pick(1, 0), -1);
        Check.due("pick(-1, 0)", x.pick(-1, 0), -1);
    }
}
