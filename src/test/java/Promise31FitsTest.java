/** Promise 31: CASES in which all is as SEEN; BAD; NONE (1, 2, 3): there is none. */
public final class Promise31FitsTest {
    private Promise31FitsTest() {
    }

    public static void main(String[] args) {
        nothingSeen();
        allOfSix();
        theLeast();
        theLeastByBits();
        inAllInNone();
        oneCase();
        noCase();
        whoIsGoneNow();
        bad();
        Check.close("Promise31FitsTest");
    }

    private static void fits(String why, ThirdSon x, int... due) {
        for (int what = 0; what < 4; what++) {
            Check.due("fits(" + what + "), " + why, x.fits(what), due[what]);
        }
    }

    private static void nothingSeen() {
        fits("nobody there: the one CASE", new ThirdSon(), 1, 0, 0, 0);
        StringBuilder people = new StringBuilder();
        for (int n = 1; n <= 6; n++) {
            people.append("one;");
            fits(n + " PEOPLE", Check.told(people.toString()), 1 << n, 0, 0, 0);
        }
    }

    private static ThirdSon three() {
        return Check.told("one;one;one;rule 1 0 any 0 first;rule 1 1 any 0 last;");
    }

    /** Each of six counts, the last one too. */
    private static void allOfSix() {
        for (int i = 0; i < 6; i++) {
            ThirdSon x = three();
            for (int j = 0; j < 6; j++) {
                x.see(j == i ? 0 : 1, j == i ? 1 : 2);
            }
            fits("2 has THING 1 and 1 has THING 0", x, 1, 1, 1, 6);
            x.see(0, 0);
            fits("the 7th is not SEEN", x, 1, 1, 1, 6);
        }
    }

    private static void theLeast() {
        ThirdSon x = three();
        x.see(0, 1);
        fits("1 has THING 0", x, 2, 1, 1, 2);
        x.forget(0);
        x.see(1, 0);
        fits("0 has THING 1", x, 1, 6, 6, 1);
        ThirdSon y = Check.told("one;one;one;one;one;one;rule 1 0 any 0 last;");
        y.see(0, 1);
        fits("1 has it, 2 to 5 are GONE", y, 2, 60, 60, 2);
        y.forget(0);
        y.see(0, -4);
        fits("all are GONE", y, 1, 63, 63, 0);
    }

    /** 2 or 3 is GONE, or 0 and 1 are: by bits 3 is less than 4, though more are GONE. */
    private static void theLeastByBits() {
        ThirdSon x = Check.told("one;one;one;one;fact1 0;fact2 0;fact3 0;fact0 1;fact2 1;fact3 1;"
            + "rule1 0fact0third;rule1 1fact1third;");
        x.see(0, -4);
        x.see(1, -4);
        fits("nobody has either", x, 13, 3, 0, 0);
    }

    private static void inAllInNone() {
        ThirdSon x = Check.told("one;one 0;one 0;rule 1 0 bare 1 last;");
        x.see(0, 0);
        fits("one of two children is GONE", x, 2, 2, 0, 1);
        ThirdSon y = Check.told("one;one;one;rule 1 0 any 0 third;");
        y.see(0, -4);
        fits("somebody is GONE", y, 7, 1, 0, 0);
    }

    private static void oneCase() {
        ThirdSon x = Check.told("one;one;one;rule 1 0 any 0 third;");
        x.see(0, 2);
        fits("nobody is GONE", x, 1, 0, 0, 7);
        x.see(1, -4);
        fits("nobody's THING too", x, 1, 0, 0, 7);
    }

    private static void noCase() {
        ThirdSon x = three();
        x.see(0, 1);
        x.see(0, 2);
        fits("two have it", x, 0, -4, -4, -4);
        x.forget(0);
        x.see(2, 0);
        fits("no RULE gives it", x, 0, -4, -4, -4);
        x.forget(0);
        x.see(0, 0);
        x.see(0, -4);
        fits("somebody and nobody", x, 0, -4, -4, -4);
        ThirdSon none = Check.told("rule 1 0 any 0 first;");
        none.see(0, -4);
        fits("nobody there, nobody's", none, 1, 0, 0, 0);
    }

    private static void whoIsGoneNow() {
        ThirdSon x = three();
        x.does(6);
        x.see(0, 0);
        fits("0 is GONE now, not in CASES", x, 4, 0, 0, 1);
        x.does(16);
        x.does(26);
        fits("all are GONE now", x, 4, 0, 0, 1);
    }

    private static void bad() {
        for (int what : new int[] {-1, 4, Integer.MIN_VALUE, Integer.MAX_VALUE}) {
            Twins.bad("fits(" + what + ")", x -> x.fits(what));
            Twins.unchanged("fits(" + what + "), no CASE", x -> x.see(0, 1), x -> x.fits(what), -1);
        }
        int[] due = {1, 14, 14, 1};
        for (int what = 0; what < 4; what++) {
            int asked = what;
            Twins.unchanged("fits(" + what + ")", x -> x.fits(asked), due[what]);
        }
    }
}
