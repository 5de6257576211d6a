/** Promise 35: a SHEET is a new row of CELLS 0: 1; BAD, also n above 40; -14: SIZE. */
public final class Promise35SheetTest {
    private Promise35SheetTest() {
    }

    public static void main(String[] args) {
        fromNoneToForty();
        cellsAreZero();
        anotherLane();
        ofThatSheetAlone();
        aTextLeavesThem();
        size();
        bad();
        Check.close("Promise35SheetTest");
    }

    private static void fromNoneToForty() {
        for (int k = 0; k < 4; k++) {
            for (int lane = 0; lane < 3; lane++) {
                ThirdSon x = Check.told("one;");
                for (int n : new int[] {0, 1, 20, 39, 40, 0}) {
                    String call = "sheet(" + k + ", " + lane + ", " + n + ")";
                    Check.due(call, x.sheet(k, lane, n), 1);
                    Check.due(call + ": the last CELL", x.lay(k, n - 1, 5), n == 0 ? -12 : 1);
                    Check.due(call + ": none behind it", x.lay(k, n, 5), -12);
                    Check.due(call + ": CELLS of SHEET 0", x.count(3), k == 0 ? n : -4);
                }
            }
        }
    }

    /** Those of a new row are 0, whatever stood there, be it longer or shorter than the one before. */
    private static void cellsAreZero() {
        for (int lane = 0; lane < 3; lane++) {
            ThirdSon x = Check.told("one;one;");
            zeros("the first row", x, lane, 1);
            x.sheet(2, lane, 40);
            for (int i = 0; i < 40; i++) {
                x.lay(2, i, 15);
            }
            zeros("a shorter row", x, lane, 3);
            zeros("a longer row", x, lane, 40);
        }
    }

    private static void zeros(String which, ThirdSon x, int lane, int n) {
        x.sheet(2, lane, n);
        for (int i = 0; i < n; i++) {
            x.hush(0, 0);
            x.tries(0, 0);
            Check.due(which + " of lane " + lane + ": read of CELL " + i, x.read(2, lane, i, 1), 1);
            Check.due("FACT 0 of 0 by it", x.one(0, 1), 1);
        }
    }

    private static void anotherLane() {
        ThirdSon x = Check.told("one;");
        for (int lane : new int[] {2, 0, 1, 2, 1, 0}) {
            x.sheet(3, lane, 1);
            for (int asked = 0; asked < 3; asked++) {
                x.hush(0, 0);
                x.tries(0, 0);
                Check.due("lane " + lane + " read as of " + asked, x.read(3, asked, 0, 1),
                    asked == lane ? 1 : 0);
                Check.due("torn()", x.torn(), asked == lane ? 0 : 3);
            }
        }
    }

    private static void ofThatSheetAlone() {
        for (int k = 0; k < 4; k++) {
            ThirdSon x = Check.told("one;");
            for (int other = 0; other < 4; other++) {
                x.sheet(other, other % 3, other + 1);
                x.lay(other, other, 5);
            }
            Check.due("sheet(" + k + ", 1, 7)", x.sheet(k, 1, 7), 1);
            for (int other = 0; other < 4; other++) {
                x.tries(0, 0);
                x.hush(0, 0);
                int due = other == k ? 1 : 0;
                x.read(other, other == k ? 1 : other % 3, other, 1);
                Check.due("SHEET " + other + " behind sheet(" + k + "): its CELL", x.one(0, 1), due);
                Check.due("its TRIES", x.one(0, 2), 1);
                int last = other == k ? 7 : other + 1;
                Check.due("SHEET " + other + ": none behind it", x.lay(other, last, 0), -12);
            }
        }
    }

    private static void aTextLeavesThem() {
        for (int k = 0; k < 4; k++) {
            int lane = (k + 1) % 3;
            ThirdSon x = new ThirdSon();
            x.sheet(k, lane, 3);
            x.lay(k, 0, 14);
            x.lay(k, 2, 13);
            Check.tell(x, "?");
            Check.due("behind a FAULT: no CELL 3", x.lay(k, 3, 0), -12);
            Check.tell(x, "one;one;");
            Check.due("behind a text: CELLS", x.count(3), k == 0 ? 3 : -4);
            Check.due("behind a text: no CELL 3", x.lay(k, 3, 0), -12);
            Check.due("behind a text: read of SHEET " + k, x.read(k, lane, 0, 3), 3);
            Check.due("behind a text: the FACTS by it", x.one(1, 1), 24);
            Check.due("behind a text: the FACT by CELL 1", x.one(0, 1), 1);
            int other = (k + 1) % 4;
            Check.due("behind a text: nothing", x.lay(other, 0, 0), -11);
        }
    }

    private static void size() {
        for (int n : new int[] {-1, -2, -40, -41, Integer.MIN_VALUE}) {
            for (int k = 0; k < 4; k++) {
                int sheet = k;
                Twins.unchanged("sheet(" + k + ", 1, " + n + ")", x -> x.sheet(sheet, 1, n), -14);
            }
            Twins.unchanged("sheet(0, 0, " + n + ")", x -> x.sheet(0, 0, n), -14);
            Twins.unchanged("sheet(3, 2, " + n + ")", x -> x.sheet(3, 2, n), -14);
        }
    }

    private static void bad() {
        int[][] bad = {{-1, 0, 1}, {4, 0, 1}, {0, -1, 1}, {0, 3, 1}, {0, 1, 41}, {0, 0, 41},
            {1, 0, 41}, {2, 2, 41}, {3, 2, 41}, {-1, 0, 0}, {4, 0, 0}, {0, 3, 0}, {0, -1, 0},
            {Integer.MIN_VALUE, 0, 1}, {Integer.MAX_VALUE, 0, 1}, {0, Integer.MIN_VALUE, 1},
            {0, Integer.MAX_VALUE, 1}, {0, 0, Integer.MAX_VALUE}};
        for (int[] b : bad) {
            Twins.bad("sheet(" + b[0] + ", " + b[1] + ", " + b[2] + ")",
                x -> x.sheet(b[0], b[1], b[2]));
        }
        int[][] ahead = {{-1, 0, -1}, {4, 0, -1}, {0, -1, -1}, {0, 3, -1}, {4, 3, -1},
            {4, 0, Integer.MIN_VALUE}, {0, 3, Integer.MIN_VALUE}};
        for (int[] b : ahead) {
            Twins.bad("BAD ahead of SIZE: sheet(" + b[0] + ", " + b[1] + ", " + b[2] + ")",
                x -> x.sheet(b[0], b[1], b[2]));
        }
    }
}
