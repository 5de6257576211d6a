/** Promise 2: a byte (0 to 127) comes behind THE TAPE; BAD; FULL: more than 160. */
public final class Promise02FeedTest {
    private Promise02FeedTest() {
    }

    public static void main(String[] args) {
        leastAndGreatestByte();
        noByte();
        full();
        roomAgain();
        behindTheOthers();
        Check.close("Promise02FeedTest");
    }

    private static void leastAndGreatestByte() {
        ThirdSon x = new ThirdSon();
        Check.due("feed(0)", x.feed(0), 1);
        Check.due("feed(127)", x.feed(127), 2);
        for (int c = 1; c < 127; c++) {
            Check.due("feed(" + c + ")", x.feed(c), c + 2);
        }
    }

    private static void noByte() {
        int[] bad = {-1, 128, 256 + 'o', -256 + 'o', Integer.MIN_VALUE, Integer.MAX_VALUE};
        for (int c : bad) {
            Twins.bad("feed(" + c + ")", x -> x.feed(c));
        }
        ThirdSon x = new ThirdSon();
        x.feed(128);
        Check.due("feed(32) behind one that is BAD", x.feed(32), 1);
    }

    private static void fill(ThirdSon x) {
        while (x.count(2) < 160) {
            x.feed(' ');
        }
    }

    private static void full() {
        ThirdSon x = new ThirdSon();
        for (int i = 1; i <= 160; i++) {
            Check.due("the byte " + i, x.feed(' '), i);
        }
        Check.due("the byte 161", x.feed(' '), -3);
        Check.due("THE TAPE behind it", x.count(2), 160);
        Check.due("the byte 161 again", x.feed(' '), -3);
        ThirdSon y = new ThirdSon();
        fill(y);
        Check.due("BAD ahead of FULL, 128", y.feed(128), -1);
        Check.due("BAD ahead of FULL, -1", y.feed(-1), -1);
        // what is FULL changes nothing, not the last byte either
        y.feed('?');
        Check.due("text of 160 blanks", y.text(), 0);
    }

    private static void roomAgain() {
        ThirdSon x = new ThirdSon();
        fill(x);
        x.end(159);
        Check.due("feed behind end(159)", x.feed(' '), 160);
        Check.due("feed behind that", x.feed(' '), -3);
        x.text();
        Check.due("feed behind text()", x.feed(' '), 1);
        x.feed('?');
        x.text();
        Check.due("feed behind a text with a FAULT", x.feed(' '), 1);
    }

    private static void behindTheOthers() {
        ThirdSon x = new ThirdSon();
        Check.write(x, "one;?");
        Check.due("the FAULT of the last byte", x.text(), -14);
    }
}
