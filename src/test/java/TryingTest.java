/** Promises 28 to 32: trying, what is seen, a land by a seed. */
public final class TryingTest {
    private static final String DUCHY = "one;one 0;one 0;one 0;one;fact 4 1;odds 1 7;odds 2 3;"
        + "rule 1 0 born 3 first;rule 2 0 fact 1 last;rule 3 1 tried 1 third;rule 4 1 kin 0 last;";

    private TryingTest() {
    }

    public static void main(String[] args) {
        best();
        bestByWhatCame();
        bestRefused();
        see();
        forget();
        fits();
        drift();
        driftRefused();
        Check.close("TryingTest");
    }

    private static void bestOf(ThirdSon x, int p, int t, int n, long above, long below, long f) {
        String call = "best(" + p + ", " + t + ", " + n + ", ";
        Check.due(call + "0)", x.best(p, t, n, 0), above);
        Check.due(call + "1)", x.best(p, t, n, 1), below);
        Check.due(call + "2)", x.best(p, t, n, 2), f);
    }

    private static void best() {
        ThirdSon x = Check.told("one;one;odds 1 7;odds 2 3;rule 1 0 fact 1 last;"
            + "rule 2 0 any 0 first;rule 3 1 tried 1 first;");
        bestOf(x, 1, 0, 0, 0, 1, 5);
        bestOf(x, 1, 0, 1, 7, 10, 1);
        bestOf(x, 1, 0, 2, 91, 100, 1);
        bestOf(x, 1, 0, 3, 973, 1000, 1);
        bestOf(x, 0, 0, 3, 1, 1, 5);
        bestOf(x, 1, 2, 3, 0, 1, 5);
        bestOf(x, 0, 1, 1, 1, 1, 0);
        bestOf(x, 0, 1, 0, 0, 1, 5);
        x.weigh(1, 5);
        bestOf(x, 1, 0, 2, 3, 4, 1);
        x.weigh(1, 0);
        bestOf(x, 1, 0, 3, 0, 1, 5);
        x.weigh(1, 10);
        bestOf(x, 1, 0, 1, 1, 1, 1);
        // with a try to spare, FACT 0 first is as good
        bestOf(x, 1, 0, 3, 1, 1, 0);
        x.weigh(1, 7);
        x.tries(1, 2);
        bestOf(x, 1, 0, 3, 7, 10, 1);
        x.tries(1, 3);
        bestOf(x, 1, 0, 3, 0, 1, 5);
        Check.due("nothing is changed", 10 * x.count(5) + x.count(6), 3);
        x.tries(1, 0);
        x.does(16);
        bestOf(x, 1, 0, 3, 0, 1, 5);
        ThirdSon w = Check.told("one;one;fact 0 0;odds 0 9;rule 1 0 fact 0 last;");
        bestOf(w, 1, 0, 1, 9, 10, 0);
        bestOf(w, 0, 0, 1, 1, 1, 5);
        ThirdSon y = Check.told("one;fact 0 0;rule 1 0 tried 1 last;");
        bestOf(y, 0, 0, 1, 1, 1, 1);
        ThirdSon z = Check.told("one;fact 0 0;fact 0 1;fact 0 2;fact 0 3;fact 0 4;"
            + "rule 1 0 tried 1 last;");
        bestOf(z, 0, 0, 1, 0, 1, 5);
    }

    /** He stops when it is his; the third try takes it from him who has tried. */
    private static void bestByWhatCame() {
        ThirdSon x = Check.told("one;one;odds 0 4;odds 3 6;rule 1 0 tried 3 third;"
            + "rule 2 0 fact 0 last;rule 3 0 fact 3 last;");
        bestOf(x, 0, 0, 1, 3, 5, 3);
        // 3, then 0 or 3 again: 6 of ten and 4 of ten times 6 of ten
        bestOf(x, 0, 0, 2, 21, 25, 3);
        x.does(13);
        // 1 has fact 3 now, so only fact 0 helps: 4 of ten, then 6 of ten times 4 of ten
        bestOf(x, 0, 0, 1, 2, 5, 0);
        bestOf(x, 0, 0, 2, 16, 25, 0);
        // what he knows already stays known: the third of three has it
        ThirdSon z = Check.told("one;one;one;fact 0 1;fact 1 1;fact 2 1;rule 1 0 fact 1 third;"
            + "rule 2 0 fact 0 last;");
        bestOf(z, 0, 0, 2, 0, 1, 5);
        bestOf(z, 2, 0, 2, 1, 1, 5);
        // who tries at all loses it: three who have tried
        ThirdSon y = Check.told("one;one;one;rule 1 0 tried 1 third;rule 2 0 any 0 first;");
        y.tries(1, 1);
        y.tries(2, 1);
        bestOf(y, 0, 0, 3, 1, 1, 5);
        bestOf(y, 2, 0, 3, 0, 1, 5);
        y.tries(0, 1);
        bestOf(y, 2, 0, 3, 1, 1, 5);
    }

    private static void bestRefused() {
        ThirdSon x = Check.told(DUCHY);
        int[][] bad = {{5, 0, 1, 0}, {-1, 0, 1, 0}, {0, 4, 1, 0}, {0, -1, 1, 0}, {0, 0, 4, 0},
            {0, 0, -1, 0}, {0, 0, 1, 3}, {0, 0, 1, -1}};
        for (int[] b : bad) {
            Check.due("best(" + b[0] + ", " + b[1] + ", " + b[2] + ", " + b[3] + ")",
                x.best(b[0], b[1], b[2], b[3]), -1);
        }
    }

    private static void see() {
        ThirdSon x = Check.told(DUCHY);
        Check.due("see(4, 0)", x.see(4, 0), -1);
        Check.due("see(-1, 0)", x.see(-1, 0), -1);
        Check.due("see(0, 5)", x.see(0, 5), -1);
        Check.due("see(0, -1)", x.see(0, -1), -1);
        Check.due("see(0, -3)", x.see(0, -3), -1);
        for (int i = 1; i <= 6; i++) {
            Check.due("see, the " + i, x.see(3, i % 2 == 0 ? -4 : 4), i);
        }
        Check.due("see, the 7th", x.see(0, 0), -3);
        Check.due("see what is not there, the 7th", x.see(4, 0), -1);
        Check.due("SEEN", x.count(0), 6);
    }

    private static void forget() {
        ThirdSon x = Check.told(DUCHY);
        Check.due("forget(0) of none", x.forget(0), 0);
        Check.due("forget(1) of none", x.forget(1), -1);
        x.see(0, 3);
        x.see(0, 4);
        x.see(0, -4);
        Check.due("forget(-1)", x.forget(-1), -1);
        Check.due("forget(4)", x.forget(4), -1);
        Check.due("forget(3)", x.forget(3), 3);
        Check.due("forget(1)", x.forget(1), 3);
        Check.due("SEEN", x.count(0), 1);
        Check.due("the first is kept", x.fits(0), 4);
        Check.due("forget(0)", x.forget(0), 1);
        Check.due("SEEN none", x.count(0), 0);
    }

    private static void fitsAs(ThirdSon x, String when, int... due) {
        for (int what = 0; what < 4; what++) {
            Check.due(when + ": fits(" + what + ")", x.fits(what), due[what]);
        }
    }

    private static void fits() {
        ThirdSon x = Check.told(DUCHY);
        fitsAs(x, "nothing seen", 32, 0, 0, 0);
        x.see(0, 3);
        fitsAs(x, "3 has it", 4, 0, 0, 14);
        x.see(0, 4);
        fitsAs(x, "3 and 4 have it", 0, -4, -4, -4);
        x.forget(0);
        x.see(0, -4);
        fitsAs(x, "nobody has it", 14, 18, 16, 0);
        x.see(1, 2);
        // 3 and 4 are gone, 2 is not, 0 and 1 may be
        fitsAs(x, "2 has the other", 4, 24, 24, 4);
        x.does(6);
        fitsAs(x, "who is GONE is not in a case", 4, 24, 24, 4);
        Check.due("fits(4)", x.fits(4), -1);
        Check.due("fits(-1)", x.fits(-1), -1);
        ThirdSon z = Check.told("one;one;one;rule 1 0 any 0 first;");
        z.see(0, 1);
        fitsAs(z, "1 has what is the first's", 2, 1, 1, 2);
        z.forget(0);
        z.see(1, -4);
        z.see(0, 0);
        fitsAs(z, "0 has it", 4, 0, 0, 1);
        ThirdSon w = Check.told("one;one 0;one 0;rule 1 0 bare 1 last;");
        w.see(0, 0);
        fitsAs(w, "just one of two is gone", 2, 2, 0, 1);
        ThirdSon y = new ThirdSon();
        fitsAs(y, "nobody there", 1, 0, 0, 0);
        y.see(0, -4);
        fitsAs(y, "nobody there, as seen", 1, 0, 0, 0);
    }

    private static void drift() {
        ThirdSon x = Check.told("one;rule 1 0 any 0 first;");
        Check.due("alone he comes back: changes", x.drift(7, 60, 0), 0);
        Check.due("alone he comes back: owner", x.drift(7, 60, 1), 0);
        x.does(6);
        Check.due("all GONE at first: changes", x.drift(7, 1, 0), 1);
        Check.due("all GONE at first: owner", x.drift(7, 1, 1), 0);
        // two people, reckoned once more step by step
        ThirdSon y = Check.told("one;one;rule 1 0 tried 1 last;");
        long seed = 1;
        int[] tries = new int[2];
        boolean[] gone = new boolean[2];
        int[] facts = new int[2];
        int owner = -4;
        int changes = 0;
        for (int n = 1; n <= 60; n++) {
            seed = (seed * 1103515245L + 12345L) & 0xffffffffL;
            int p = (int) (seed >> 16 & 32767) % 2;
            seed = (seed * 1103515245L + 12345L) & 0xffffffffL;
            int deed = (int) (seed >> 16 & 32767) % 7;
            if (!gone[p] && deed == 6) {
                gone[p] = true;
            } else if (!gone[p] && tries[p] < 3 && (deed == 5 || (facts[p] >> deed & 1) == 0)) {
                tries[p]++;
                facts[p] |= deed == 5 ? 0 : 1 << deed;
            }
            if (gone[0] && gone[1]) {
                gone[0] = false;
                gone[1] = false;
            }
            int now = !gone[1] && tries[1] > 0 ? 1 : !gone[0] && tries[0] > 0 ? 0 : -4;
            changes += now == owner ? 0 : 1;
            owner = now;
            Check.due("drift(1, " + n + ", 0)", y.drift(1, n, 0), changes);
            Check.due("drift(1, " + n + ", 1)", y.drift(1, n, 1), owner);
        }
        Check.due("nothing is changed", 10 * y.rule(2) + y.count(5) + y.count(6), 0);
        ThirdSon z = Check.told("one;one;rule 1 1 any 0 first;");
        Check.due("nobody's: changes", z.drift(-5, 60, 0), 0);
        Check.due("nobody's: owner", z.drift(-5, 60, 1), -4);
    }

    private static void driftRefused() {
        ThirdSon x = new ThirdSon();
        Check.due("nobody there", x.drift(1, 1, 0), -2);
        Check.due("nobody there, n 0", x.drift(1, 0, 0), -1);
        Check.due("nobody there, what 2", x.drift(1, 1, 2), -1);
        ThirdSon y = Check.told(DUCHY);
        Check.due("n 0", y.drift(1, 0, 0), -1);
        Check.due("n 61", y.drift(1, 61, 0), -1);
        Check.due("n -1", y.drift(1, -1, 0), -1);
        Check.due("what 2", y.drift(1, 1, 2), -1);
        Check.due("what -1", y.drift(1, 1, -1), -1);
    }
}
