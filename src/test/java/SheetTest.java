/** Promises 33 to 39: images, sheets, how many. */
public final class SheetTest {
    private SheetTest() {
    }

    public static void main(String[] args) {
        keep();
        sheet();
        lay();
        lanes();
        read();
        readRefused();
        torn();
        count();
        Check.close("SheetTest");
    }

    private static void keep() {
        ThirdSon x = Check.told("one;one;fact 0 1;gone 1;odds 1 7;rule 4 0 any 0 last;");
        x.tries(0, 2);
        x.see(0, 0);
        Check.due("back(0) of none", x.back(0), -2);
        Check.due("keep(0)", x.keep(0), 0);
        Check.due("back(1) of none", x.back(1), -2);
        x.hush(0, 1);
        x.does(0);
        x.comes(1);
        x.weigh(1, 2);
        x.rank(0, 9);
        x.pick(0, 1);
        x.see(0, 1);
        Check.due("keep(1)", x.keep(1), 0);
        Check.due("IMAGES", x.count(1), 2);
        Check.due("back(0)", x.back(0), 2);
        look(x, "back(0)", 2, 2, 7, 4, 2);
        Check.due("SEEN are no part of it", x.count(0), 2);
        Check.due("back(1)", x.back(1), 0);
        look(x, "back(1)", 1, 3, 2, 9, 1);
        Check.due("keep(0) again", x.keep(0), 1);
        Check.due("back(0) of the later one", x.back(0), 0);
        look(x, "back(0) of the later one", 1, 3, 2, 9, 1);
        x.does(16);
        Check.due("what is kept stays as it was", x.back(0), 0);
        Check.due("keep(-1)", x.keep(-1), -1);
        Check.due("keep(2)", x.keep(2), -1);
        Check.due("back(-1)", x.back(-1), -1);
        Check.due("back(2)", x.back(2), -1);
    }

    private static void look(ThirdSon x, String when, int facts, int tries, int odds, int rank,
            int pick) {
        Check.due(when + ": FACTS", x.one(0, 1), facts);
        Check.due(when + ": TRIES", x.one(0, 2), tries);
        Check.due(when + ": ODDS", x.odd(1), odds);
        Check.due(when + ": RANK", x.law(0, 0), rank);
        Check.due(when + ": PICK", x.law(0, 4), pick);
    }

    private static void sheet() {
        ThirdSon x = new ThirdSon();
        Check.due("sheet(0, 0, 40)", x.sheet(0, 0, 40), 1);
        Check.due("CELLS", x.count(3), 40);
        Check.due("sheet(0, 0, 41)", x.sheet(0, 0, 41), -1);
        Check.due("sheet(0, 0, -1)", x.sheet(0, 0, -1), -14);
        Check.due("sheet(0, 0, MIN)", x.sheet(0, 0, Integer.MIN_VALUE), -14);
        Check.due("sheet(0, 3, 1)", x.sheet(0, 3, 1), -1);
        Check.due("sheet(0, -1, 1)", x.sheet(0, -1, 1), -1);
        Check.due("sheet(4, 0, 1)", x.sheet(4, 0, 1), -1);
        Check.due("sheet(-1, 0, 1)", x.sheet(-1, 0, 1), -1);
        Check.due("sheet(4, 0, -1)", x.sheet(4, 0, -1), -1);
        Check.due("CELLS stay", x.count(3), 40);
        Check.due("sheet(0, 2, 0)", x.sheet(0, 2, 0), 1);
        Check.due("no CELLS", x.count(3), 0);
        Check.due("one who fails", Check.tell(x, "one;"), 1);
        x.sheet(2, 1, 3);
        x.lay(2, 0, 5);
        x.lay(2, 1, 6);
        Check.due("sheet(2, 1, 2)", x.sheet(2, 1, 2), 1);
        Check.due("CELLS are 0 anew", x.read(2, 1, 0, 1), 1);
        Check.due("FACT 0 is known", x.one(0, 1), 1);
        Check.due("FACT 0 is known already", x.read(2, 1, 1, 1), -20);
        Check.due("sheet(3, 2, 1)", x.sheet(3, 2, 1), 1);
        Check.due("lay(3, 0, 1)", x.lay(3, 0, 1), 1);
    }

    private static void lay() {
        ThirdSon x = new ThirdSon();
        Check.due("lay(0, 0, 0) of nothing", x.lay(0, 0, 0), -11);
        Check.due("lay(0, -1, 0) of nothing", x.lay(0, -1, 0), -11);
        x.sheet(0, 1, 3);
        Check.due("lay(0, 2, 5)", x.lay(0, 2, 5), 1);
        Check.due("lay(0, 3, 5)", x.lay(0, 3, 5), -12);
        Check.due("lay(0, -1, 5)", x.lay(0, -1, 5), -12);
        Check.due("lay(0, MAX, 5)", x.lay(0, Integer.MAX_VALUE, 5), -12);
        Check.due("lay(4, 0, 5)", x.lay(4, 0, 5), -1);
        Check.due("lay(-1, 0, 5)", x.lay(-1, 0, 5), -1);
    }

    /** The lowest bits of what is laid are read as a number with its sign. */
    private static void lanes() {
        int[] laid = {15, 256 + 15, 65536 + 15, 256 - 1, 65536 - 1, 65536 * 256 + 256 + 15};
        int[][] due = {{1, 1, 1, -20, -20, 1}, {1, -20, 1, -20, -20, -20},
            {1, -20, -20, -20, -20, -20}};
        for (int lane = 0; lane < 3; lane++) {
            for (int i = 0; i < laid.length; i++) {
                ThirdSon x = Check.told("one;one;");
                x.sheet(2, lane, 1);
                x.lay(2, 0, laid[i]);
                Check.due("lane " + lane + ", laid " + laid[i], x.read(2, lane, 0, 1),
                    due[lane][i]);
            }
            ThirdSon y = Check.told("one;");
            y.sheet(2, lane, 2);
            y.lay(2, 0, lane == 0 ? 128 : lane == 1 ? 32768 : Integer.MIN_VALUE);
            Check.due("lane " + lane + ", the sign", y.read(2, lane, 0, 1), -20);
        }
    }

    private static ThirdSon withDeeds(int lane, int... deeds) {
        ThirdSon x = Check.told("one;one;one;rule 1 0 tried 1 last;");
        x.sheet(1, lane, deeds.length);
        for (int i = 0; i < deeds.length; i++) {
            Check.due("lay(1, " + i + ", " + deeds[i] + ")", x.lay(1, i, deeds[i]), 1);
        }
        return x;
    }

    private static void read() {
        ThirdSon x = withDeeds(1, 5, 10, 26, 14, 6);
        Check.due("read(1, 1, 0, 3)", x.read(1, 1, 0, 3), 3);
        Check.due("torn() of none", x.torn(), 0);
        Check.due("owner", x.owner(0), 1);
        Check.due("GONE", x.rule(2), 4);
        Check.due("read(1, 1, 3, 20): two, then INDEX", x.read(1, 1, 3, 20), 2);
        Check.due("torn(): INDEX", x.torn(), 2);
        Check.due("those ahead were done", x.rule(2), 5);
        Check.due("those ahead were done: FACTS", x.one(1, 1), 17);
        Check.due("read(1, 1, 5, 1)", x.read(1, 1, 5, 1), 0);
        Check.due("read(1, 1, -1, 1)", x.read(1, 1, -1, 1), 0);
        Check.due("read(1, 1, MAX, 20)", x.read(1, 1, Integer.MAX_VALUE, 20), 0);
        Check.due("read(1, 1, MIN, 20)", x.read(1, 1, Integer.MIN_VALUE, 20), 0);
        Check.due("torn(): INDEX again", x.torn(), 2);
    }

    private static void readRefused() {
        ThirdSon x = withDeeds(2, 5, 10, 10, 16, 6, 70);
        Check.due("read(1, 2, 0, 3)", x.read(1, 2, 0, 3), -22);
        Check.due("none was done: TRIES", x.count(6), 0);
        Check.due("none was done: FACTS", x.count(5), 0);
        Check.due("read(1, 2, 3, 3): no such ONE", x.read(1, 2, 3, 3), -22);
        Check.due("none was done: GONE", x.rule(2), 0);
        Check.due("read(1, 2, 5, 2): refused ahead of INDEX", x.read(1, 2, 5, 2), -20);
        x.does(16);
        Check.due("read(1, 2, 3, 1): he is GONE", x.read(1, 2, 3, 1), -20);
        int[][] bad = {{-1, 0, 0, 0}, {4, 0, 0, 0}, {1, -1, 0, 0}, {1, 3, 0, 0}, {1, 2, 0, -1},
            {1, 2, 0, 21}};
        for (int[] b : bad) {
            Check.due("read(" + b[0] + ", " + b[1] + ", " + b[2] + ", " + b[3] + ")",
                x.read(b[0], b[1], b[2], b[3]), -1);
        }
        ThirdSon y = withDeeds(0, 5, 5, 15, 15, 15, 25, 25, 26, 5, 6, 16, 0, 0, 0, 0, 0, 0, 0, 0,
            0, 0);
        Check.due("read(1, 0, 0, 11)", y.read(1, 0, 0, 11), 11);
        Check.due("all are GONE", y.rule(2), 7);
        Check.due("all TRIES", y.count(6), 8);
        Check.due("the last of twenty", y.read(1, 0, 11, 10), -20);
    }

    private static void torn() {
        ThirdSon x = withDeeds(1, 5, 10);
        Check.due("torn() at first", x.torn(), 0);
        Check.due("of nothing", x.read(0, 1, 0, 1), 0);
        Check.due("torn(): NULL", x.torn(), 1);
        Check.due("of another lane, by an index that is out too", x.read(1, 2, 9, 1), 0);
        Check.due("torn(): CAST", x.torn(), 3);
        Check.due("refused", x.read(1, 1, 0, 21), -1);
        Check.due("torn() is left by BAD", x.torn(), 3);
        x.lay(1, 0, 7);
        Check.due("refused by does()", x.read(1, 1, 0, 2), -20);
        Check.due("torn() is left by -20", x.torn(), 3);
        Check.due("of n 0, nothing", x.read(0, 1, 0, 0), 0);
        Check.due("torn(): none", x.torn(), 0);
        x.read(0, 0, -1, 1);
        Check.due("torn(): NULL, whatever the index", x.torn(), 1);
        Check.due("of n 0, another lane, out", x.read(1, 0, -7, 0), 0);
        Check.due("torn(): none again", x.torn(), 0);
        Check.due("of INDEX", x.read(1, 1, 2, 1), 0);
        Check.due("torn(): INDEX", x.torn(), 2);
        Check.due("one that is done", x.read(1, 1, 1, 1), 1);
        Check.due("torn(): none at last", x.torn(), 0);
    }

    private static void count() {
        ThirdSon x = Check.told("one;one;one;fact 0 1;fact 0 2;fact 2 1;gone 2;"
            + "rule 1 0 any 0 last;rule 1 3 fact 2 last;rule 1 2 any 0 third;");
        x.see(0, 1);
        x.see(0, 1);
        x.keep(1);
        x.tries(0, 3);
        x.tries(2, 2);
        x.sheet(0, 0, 7);
        Check.write(x, "one");
        int[] due = {2, 1, 3, 7, 2, 3, 5};
        for (int what = 0; what <= 6; what++) {
            Check.due("count(" + what + ")", x.count(what), due[what]);
        }
        Check.due("count(7)", x.count(7), -1);
        Check.due("count(-1)", x.count(-1), -1);
        x.sheet(1, 0, 9);
        Check.due("CELLS of SHEET 0 alone", x.count(3), 7);
    }
}
