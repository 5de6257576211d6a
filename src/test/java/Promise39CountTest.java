/** Promise 39: how many SEEN, IMAGES, bytes, CELLS, THINGS owned, FACTS known, TRIES; BAD. */
public final class Promise39CountTest {
    private Promise39CountTest() {
    }

    public static void main(String[] args) {
        seen();
        images();
        bytes();
        cells();
        thingsThatHaveAnOwner();
        factsKnown();
        allTries();
        bad();
        Check.close("Promise39CountTest");
    }

    private static void seen() {
        ThirdSon x = Check.told("one;");
        for (int n = 0; n < 6; n++) {
            Check.due("SEEN", x.count(0), n);
            x.see(n % 4, n % 2 == 0 ? 0 : -4);
        }
        Check.due("six SEEN", x.count(0), 6);
        x.see(0, 0);
        Check.due("six SEEN still", x.count(0), 6);
        x.forget(4);
        Check.due("the first 4", x.count(0), 4);
        Check.tell(x, "?");
        Check.due("behind a FAULT", x.count(0), 4);
        x.text();
        Check.due("behind a text: nothing", x.count(0), 0);
    }

    private static void images() {
        ThirdSon x = new ThirdSon();
        Check.due("no IMAGES", x.count(1), 0);
        x.keep(1);
        Check.due("IMAGE 1 alone", x.count(1), 1);
        x.keep(1);
        Check.due("IMAGE 1 again", x.count(1), 1);
        x.keep(2);
        Check.due("no IMAGE 2", x.count(1), 1);
        x.keep(0);
        Check.due("both IMAGES", x.count(1), 2);
        x.back(0);
        Check.due("both IMAGES behind back(0)", x.count(1), 2);
        Check.tell(x, "?");
        Check.due("behind a FAULT", x.count(1), 2);
        x.text();
        Check.due("behind a text: none", x.count(1), 0);
        x.keep(0);
        Check.due("IMAGE 0 alone", x.count(1), 1);
    }

    private static void bytes() {
        ThirdSon x = new ThirdSon();
        for (int n = 0; n <= 160; n++) {
            Check.due("bytes", x.count(2), n);
            x.feed(' ');
        }
        Check.due("bytes, when THE TAPE is full", x.count(2), 160);
        x.end(7);
        Check.due("bytes behind end(7)", x.count(2), 7);
        x.text();
        Check.due("bytes behind text()", x.count(2), 0);
    }

    private static void cells() {
        ThirdSon x = new ThirdSon();
        Check.due("nothing", x.count(3), -4);
        x.sheet(1, 0, 9);
        x.sheet(3, 0, 9);
        x.sheet(0, 0, -1);
        x.sheet(0, 0, 41);
        Check.due("nothing still", x.count(3), -4);
        for (int n = 0; n <= 40; n++) {
            x.sheet(0, n % 3, n);
            Check.due("CELLS", x.count(3), n);
        }
        x.sheet(0, 0, -1);
        x.sheet(2, 0, 3);
        Check.due("40 CELLS still", x.count(3), 40);
        x.sheet(0, 1, 0);
        Check.due("no CELLS are not nothing", x.count(3), 0);
        Check.tell(x, "one;");
        Check.due("behind a text", x.count(3), 0);
    }

    private static void thingsThatHaveAnOwner() {
        Check.due("nobody there", Check.told("rule 1 0 any 0 first;").count(4), 0);
        StringBuilder text = new StringBuilder("one;one;");
        for (int n = 0; n <= 4; n++) {
            Check.due("THINGS", Check.told(text.toString()).count(4), n);
            text.append("rule 1 ").append(3 - n).append(" any 0 last;");
        }
        ThirdSon x = Check.told("one;one;rule 1 0 any 0 last;rule 2 0 any 0 first;rule 1 3 any 0 first;"
            + "rule 1 2 any 0 third;rule 1 1 fact 0 last;");
        Check.due("THINGS, not RULES, that somebody has", x.count(4), 2);
        x.does(10);
        Check.due("one more by a FACT", x.count(4), 3);
        x.does(16);
        Check.due("one less by going", x.count(4), 2);
        x.does(6);
        Check.due("all are GONE", x.count(4), 0);
    }

    /** Of everybody, GONE or not, each FACT as often as it is known. */
    private static void factsKnown() {
        ThirdSon x = Check.told("one;one;one;one;one;one;");
        int known = 0;
        for (int p = 0; p < 6; p++) {
            for (int f = 0; f < 5; f++) {
                Check.due("FACTS", x.count(5), known);
                x.tries(p, 0);
                x.does(10 * p + f);
                known++;
            }
        }
        Check.due("all FACTS of six", x.count(5), 30);
        x.does(6);
        x.does(56);
        Check.due("those of who is GONE too", x.count(5), 30);
        x.hush(5, 4);
        Check.due("one less", x.count(5), 29);
        Check.due("nobody there", new ThirdSon().count(5), 0);
        Check.due("told ones", Check.told("one;one;fact 1 4;fact 0 4;gone 1;").count(5), 2);
        Check.tell(x, "one;");
        Check.due("behind a text", x.count(5), 0);
    }

    private static void allTries() {
        ThirdSon x = Check.told("one;one;one;one;one;one;fact 0 0;");
        int tries = 0;
        for (int p = 0; p < 6; p++) {
            for (int i = 0; i < 3; i++) {
                Check.due("TRIES", x.count(6), tries);
                x.does(10 * p + 5);
                tries++;
            }
        }
        Check.due("all TRIES of six", x.count(6), 18);
        x.does(6);
        x.does(56);
        Check.due("those of who is GONE too", x.count(6), 18);
        x.tries(5, 1);
        Check.due("two less", x.count(6), 16);
        Check.due("nobody there", new ThirdSon().count(6), 0);
        Check.tell(x, "one;");
        Check.due("behind a text", x.count(6), 0);
    }

    private static void bad() {
        for (int what : new int[] {-1, 7, 8, Integer.MIN_VALUE, Integer.MAX_VALUE}) {
            Twins.bad("count(" + what + ")", x -> x.count(what));
        }
        int[] due = {2, 2, 10, 3, 1, 2, 6};
        for (int what = 0; what <= 6; what++) {
            int asked = what;
            Twins.unchanged("count(" + what + ")", x -> x.count(asked), due[what]);
        }
    }
}
