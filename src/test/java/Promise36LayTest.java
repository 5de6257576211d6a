/** Promise 36: CELL i of a SHEET becomes v (its lowest bits): 1; BAD: k; -11: NULL, -12: INDEX. */
public final class Promise36LayTest {
    private Promise36LayTest() {
    }

    public static void main(String[] args) {
        eachCell();
        thatCellAlone();
        lowestBits();
        ofNothing();
        outOfTheRow();
        bad();
        Check.close("Promise36LayTest");
    }

    private static void eachCell() {
        for (int k = 0; k < 4; k++) {
            for (int lane = 0; lane < 3; lane++) {
                ThirdSon x = Check.told("one;one;one;");
                x.sheet(k, lane, 40);
                for (int i = 0; i < 40; i++) {
                    Check.due("lay(" + k + ", " + i + ", 23)", x.lay(k, i, 23), 1);
                    x.tries(2, 0);
                    x.hush(2, 3);
                    Check.due("its read", x.read(k, lane, i, 1), 1);
                    Check.due("the FACT by it", x.one(2, 1), 8);
                }
                Check.due("lay(" + k + ", 40, 23)", x.lay(k, 40, 23), -12);
            }
        }
    }

    private static void thatCellAlone() {
        for (int i = 0; i < 4; i++) {
            ThirdSon x = Check.told("one;");
            x.sheet(0, 2, 4);
            x.sheet(1, 2, 4);
            x.lay(0, i, 2);
            x.lay(0, i, 1);
            for (int k = 0; k < 2; k++) {
                for (int other = 0; other < 4; other++) {
                    x.tries(0, 0);
                    x.hush(0, 0);
                    x.hush(0, 1);
                    x.read(k, 2, other, 1);
                    Check.due("CELL " + other + " of " + k + " behind lay(0, " + i + ", 1)",
                        x.one(0, 1), k == 0 && other == i ? 2 : 1);
                }
            }
        }
    }

    /** Of each lane what is laid and 15, if the deed 15 is read then; else no deed there is. */
    private static void lowestBits() {
        int[] ofBytes = {15, 256 + 15, -256 + 15, 0x7fffff00 + 15, 0x80000000 + 15, 0xff00 + 15};
        int[] notOfBytes = {-1, 127, 128, 128 + 15, -128 + 15, -129, 256 - 1, 32768 + 128};
        lowestBits(0, ofBytes, notOfBytes);
        int[] ofShorts = {15, 65536 + 15, -65536 + 15, 0x7fff0000 + 15, 0x80000000 + 15};
        int[] notOfShorts = {-1, 128 + 15, 256 + 15, 16384 + 15, 32768, 32768 + 15, 65536 - 1, 32767,
            -256 + 15, 65536 + 32768 + 15};
        lowestBits(1, ofShorts, notOfShorts);
        int[] notOfInts = {-1, 128 + 15, 256 + 15, -256 + 15, 32768 + 15, 65536 + 15, -65536 + 15,
            0x40000000 + 15, 0x80000000 + 15, Integer.MIN_VALUE, Integer.MAX_VALUE};
        lowestBits(2, new int[] {15}, notOfInts);
    }

    private static void lowestBits(int lane, int[] deeds, int[] others) {
        for (int v : deeds) {
            Check.due("lane " + lane + ", " + v + " laid", readOf(lane, v), 1);
        }
        for (int v : others) {
            Check.due("lane " + lane + ", " + v + " laid", readOf(lane, v), -20);
        }
    }

    private static int readOf(int lane, int v) {
        ThirdSon x = Check.told("one;one;one;one;one;one;");
        x.sheet(1, lane, 1);
        Check.due("lay(1, 0, " + v + ")", x.lay(1, 0, v), 1);
        int done = x.read(1, lane, 0, 1);
        Check.due("lane " + lane + ", " + v + " laid: TRIES of 1", x.one(1, 2), done == 1 ? 1 : 0);
        Check.due("lane " + lane + ", " + v + " laid: all TRIES", x.count(6), done == 1 ? 1 : 0);
        return done;
    }

    private static void ofNothing() {
        for (int k = 0; k < 4; k++) {
            ThirdSon x = new ThirdSon();
            for (int i : new int[] {0, 1, 39, 40, -1, Integer.MIN_VALUE, Integer.MAX_VALUE}) {
                Check.due("lay(" + k + ", " + i + ", 0) of nothing", x.lay(k, i, 0), -11);
            }
            x.sheet(k, 0, -1);
            Check.due("behind a SIZE below 0", x.lay(k, 0, 0), -11);
        }
        Twins.unchanged("lay(3, 0, 5) of nothing", x -> x.lay(3, 0, 5), -11);
        Twins.unchanged("lay(3, -1, 5) of nothing", x -> x.lay(3, -1, 5), -11);
    }

    private static void outOfTheRow() {
        int[] sizes = {3, 2, 0};
        for (int k = 0; k < 3; k++) {
            int sheet = k;
            for (int i : new int[] {-1, sizes[k], sizes[k] + 1, 39, 40, 41, 256, Integer.MIN_VALUE,
                Integer.MAX_VALUE}) {
                Twins.unchanged("lay(" + k + ", " + i + ", 5)", x -> x.lay(sheet, i, 5), -12);
            }
        }
        // the row is shorter than the one before
        ThirdSon x = Check.told("one;");
        x.sheet(0, 0, 40);
        x.sheet(0, 0, 2);
        Check.due("lay(0, 1, 5)", x.lay(0, 1, 5), 1);
        Check.due("lay(0, 2, 5)", x.lay(0, 2, 5), -12);
    }

    private static void bad() {
        for (int k : new int[] {-1, 4, 5, 32, Integer.MIN_VALUE, Integer.MAX_VALUE}) {
            Twins.bad("lay(" + k + ", 0, 5)", x -> x.lay(k, 0, 5));
            Twins.bad("BAD ahead of INDEX: lay(" + k + ", -1, 5)", x -> x.lay(k, -1, 5));
        }
    }
}
