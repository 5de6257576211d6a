/** Promise 7: PARENT, FACTS, TRIES, GONE, which of those born so, children; BAD. */
public final class Promise07OneTest {
    private Promise07OneTest() {
    }

    public static void main(String[] args) {
        parent();
        facts();
        tries();
        gone();
        whichOfThoseBornSo();
        childrenNotGone();
        bad();
        Check.close("Promise07OneTest");
    }

    private static void all(String when, ThirdSon x, int what, int... due) {
        for (int p = 0; p < due.length; p++) {
            Check.due(when + ": one(" + p + ", " + what + ")", x.one(p, what), due[p]);
        }
    }

    private static void parent() {
        ThirdSon x = Check.told("one;one 0;one 1;one 0;one;one 4;gone 0;");
        all("PARENT (NONE), GONE or not", x, 0, -4, 0, 1, 0, -4, 4);
    }

    private static void facts() {
        ThirdSon x = Check.told("one;one;fact 1 0;fact 1 1;fact 1 2;fact 1 3;fact 1 4;gone 1;");
        all("none and all FACTS", x, 1, 0, 31);
        x.does(4);
        all("the last FACT", x, 1, 16, 31);
    }

    private static void tries() {
        ThirdSon x = Check.told("one;one;gone 1;");
        all("no TRIES", x, 2, 0, 0);
        x.tries(1, 3);
        x.does(5);
        all("1 and 3 TRIES", x, 2, 1, 3);
    }

    private static void gone() {
        ThirdSon x = Check.told("one;one;one;one;one;one;gone 5;gone 0;");
        all("GONE", x, 3, 1, 0, 0, 0, 0, 1);
        x.does(26);
        x.comes(5);
        all("GONE then", x, 3, 1, 0, 1, 0, 0, 0);
    }

    private static void whichOfThoseBornSo() {
        ThirdSon x = Check.told("one;one 0;one;one 0;one;one 0;");
        all("nobody GONE", x, 4, 1, 1, 2, 2, 3, 3);
        x.does(16);
        all("the first child GONE", x, 4, 1, 0, 2, 1, 3, 2);
        x.does(6);
        all("their parent GONE too", x, 4, 0, 0, 1, 1, 2, 2);
        x.does(56);
        all("the last child GONE", x, 4, 0, 0, 1, 1, 2, 0);
        x.comes(0);
        x.comes(1);
        all("two came back", x, 4, 1, 1, 2, 2, 3, 0);
        ThirdSon six = Check.told("one;one;one;one;one;one;");
        all("six without a PARENT", six, 4, 1, 2, 3, 4, 5, 6);
        ThirdSon line = Check.told("one;one 0;one 1;one 2;one 3;one 4;");
        all("each of another PARENT", line, 4, 1, 1, 1, 1, 1, 1);
        ThirdSon two = Check.told("one;one;one 0;one 1;one 1;one 0;");
        all("of two PARENTS", two, 4, 1, 2, 1, 1, 2, 2);
    }

    private static void childrenNotGone() {
        ThirdSon x = Check.told("one;one 0;one 0;one 1;one 1;one 1;gone 4;");
        all("grandchildren are none, nor are those GONE", x, 5, 2, 2, 0, 0, 0, 0);
        x.does(16);
        all("of one who is GONE", x, 5, 1, 2, 0, 0, 0, 0);
        x.does(36);
        x.does(56);
        all("all of them GONE", x, 5, 1, 0, 0, 0, 0, 0);
        ThirdSon five = Check.told("one;one 0;one 0;one 0;one 0;one 0;");
        all("five", five, 5, 5, 0, 0, 0, 0, 0);
        Twins.unchanged("one(0, 5)", y -> y.one(0, 5), 1);
    }

    private static void bad() {
        int[][] bad = {{-1, 0}, {4, 0}, {5, 0}, {6, 0}, {32, 0}, {0, -1}, {0, 6}, {4, 6},
            {Integer.MIN_VALUE, 1}, {Integer.MAX_VALUE, 1}, {1, Integer.MIN_VALUE},
            {1, Integer.MAX_VALUE}};
        for (int[] b : bad) {
            Twins.bad("one(" + b[0] + ", " + b[1] + ")", x -> x.one(b[0], b[1]));
        }
        ThirdSon six = Check.told("one;one;one;one;one;one;");
        Check.due("the last of six", six.one(5, 4), 6);
        Check.due("no 7th of six", six.one(6, 4), -1);
    }
}
