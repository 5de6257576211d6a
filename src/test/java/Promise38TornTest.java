/** Promise 38: the FAULT of the latest read() that answered 0 or more; 0. */
public final class Promise38TornTest {
    private Promise38TornTest() {
    }

    public static void main(String[] args) {
        atFirst();
        ofTheLatest();
        refusedLeavesIt();
        otherCallsLeaveIt();
        Check.close("Promise38TornTest");
    }

    private static void atFirst() {
        ThirdSon x = new ThirdSon();
        Check.due("torn() ahead of any read()", x.torn(), 0);
        x.read(4, 0, 0, 1);
        Check.due("torn() behind one that is BAD", x.torn(), 0);
        x.lay(0, 0, 0);
        x.sheet(0, 0, -1);
        Check.due("torn() behind other FAULTS", x.torn(), 0);
    }

    /** SHEET 0 has a fail of ONE 0, a deed that nobody does; SHEET 1 has nothing. */
    private static ThirdSon withSheet() {
        ThirdSon x = Check.told("one;");
        x.sheet(0, 1, 2);
        x.lay(0, 0, 5);
        x.lay(0, 1, 99);
        return x;
    }

    /** Leaves torn() as is told. */
    private static void tear(ThirdSon x, int fault) {
        int[][] reads = {{0, 1, 0, 0}, {1, 1, 0, 1}, {0, 1, 2, 1}, {0, 2, 0, 1}};
        int[] r = reads[fault];
        Check.due("a read() of FAULT " + fault, x.read(r[0], r[1], r[2], r[3]), 0);
    }

    private static void ofTheLatest() {
        for (int before = 0; before <= 3; before++) {
            ThirdSon x = withSheet();
            for (int fault = 0; fault <= 3; fault++) {
                tear(x, before);
                Check.due("torn()", x.torn(), before);
                tear(x, fault);
                Check.due("torn() behind " + before, x.torn(), fault);
                Check.due("torn() asked again", x.torn(), fault);
            }
            tear(x, before);
            Check.due("a deed that is done", x.read(0, 1, 0, 1), 1);
            Check.due("torn() behind it", x.torn(), 0);
            x.lay(0, 1, 5);
            Check.due("two deeds, then INDEX", x.read(0, 1, 0, 3), 2);
            Check.due("torn() behind them", x.torn(), 2);
        }
    }

    private static void refusedLeavesIt() {
        int[][] refused = {{0, 1, 1, 1, -20}, {0, 1, 0, 2, -21}, {0, 1, 0, 3, -21}, {0, 1, 0, 21, -1},
            {0, 1, 0, -1, -1}, {0, 3, 0, 1, -1}, {0, -1, 0, 1, -1}, {-1, 1, 0, 1, -1},
            {4, 1, 0, 1, -1}, {4, 1, 0, 0, -1}, {0, 3, 0, 0, -1}};
        for (int fault = 0; fault <= 3; fault++) {
            for (int[] r : refused) {
                ThirdSon x = withSheet();
                tear(x, fault);
                Check.due("a read() that is refused", x.read(r[0], r[1], r[2], r[3]), r[4]);
                Check.due("torn() is left by " + r[4], x.torn(), fault);
            }
        }
    }

    private static void otherCallsLeaveIt() {
        for (int fault = 0; fault <= 3; fault++) {
            ThirdSon x = withSheet();
            x.keep(0);
            tear(x, fault);
            x.lay(0, 0, 0);
            x.lay(0, 9, 0);
            x.lay(1, 0, 0);
            x.sheet(0, 0, -1);
            x.sheet(0, 0, 41);
            x.sheet(2, 0, 1);
            x.does(99);
            x.does(5);
            x.back(0);
            x.drift(1, 60, 0);
            Check.due("torn() behind other calls", x.torn(), fault);
            Check.tell(x, "?");
            Check.due("torn() behind a text with a FAULT", x.torn(), fault);
            Check.tell(x, "one;one;");
            Check.due("torn() behind a text that is taken", x.torn(), fault);
        }
        Twins.unchanged("torn()", x -> x.torn(), 3);
    }
}
