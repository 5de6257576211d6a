/** Promise 33: IMAGE k (0, 1) is what changes by deeds: whether there was one (1, 0); BAD. */
public final class Promise33KeepTest {
    private static final String TWO = "one;one;rule 1 0 any 0 first;";

    private Promise33KeepTest() {
    }

    public static void main(String[] args) {
        whetherThereWasOne();
        eachByItself();
        itStaysAsItWas();
        theLaterOne();
        whatIsNoPartOfIt();
        goneByAText();
        ofNobody();
        bad();
        Check.close("Promise33KeepTest");
    }

    private static void whetherThereWasOne() {
        for (int k = 0; k < 2; k++) {
            ThirdSon x = Check.told(TWO);
            Check.due("keep(" + k + ")", x.keep(k), 0);
            Check.due("IMAGES", x.count(1), 1);
            Check.due("keep(" + k + ") again", x.keep(k), 1);
            Check.due("IMAGES still", x.count(1), 1);
            Check.due("keep(" + (1 - k) + ")", x.keep(1 - k), 0);
            Check.due("IMAGES then", x.count(1), 2);
            Check.due("keep(" + (1 - k) + ") again", x.keep(1 - k), 1);
            x.back(k);
            Check.due("keep(" + k + ") behind back(" + k + ")", x.keep(k), 1);
        }
    }

    private static void eachByItself() {
        ThirdSon x = Check.told(TWO);
        x.keep(1);
        x.does(3);
        x.keep(0);
        x.does(16);
        Check.due("back(1)", x.back(1), 0);
        Check.due("IMAGE 1: FACTS", x.one(0, 1), 0);
        Check.due("back(0)", x.back(0), 0);
        Check.due("IMAGE 0: FACTS", x.one(0, 1), 8);
    }

    /** What is changed behind it changes no IMAGE, neither behind keep() nor behind back(). */
    private static void itStaysAsItWas() {
        ThirdSon x = Check.told(TWO);
        x.keep(0);
        for (int times = 0; times < 2; times++) {
            x.does(0);
            x.does(16);
            x.weigh(0, 1);
            x.rank(0, 9);
            x.pick(0, 2);
            Check.due("GONE", x.back(0), 0);
            Check.due("FACTS", x.one(0, 1), 0);
            Check.due("TRIES", x.one(0, 2), 0);
            Check.due("ODDS", x.odd(0), 5);
            Check.due("RANK", x.law(0, 0), 1);
            Check.due("PICK", x.law(0, 4), 0);
        }
    }

    private static void theLaterOne() {
        ThirdSon x = Check.told(TWO);
        x.keep(0);
        x.does(14);
        x.does(6);
        x.weigh(4, 10);
        x.rank(0, 2);
        x.pick(0, 1);
        x.keep(0);
        x.comes(0);
        x.hush(1, 4);
        x.tries(1, 0);
        x.weigh(4, 0);
        x.rank(0, 3);
        x.pick(0, 2);
        Check.due("GONE of the later one", x.back(0), 1);
        Check.due("FACTS of the later one", x.one(1, 1), 16);
        Check.due("TRIES of the later one", x.one(1, 2), 1);
        Check.due("ODDS of the later one", x.odd(4), 10);
        Check.due("RANK of the later one", x.law(0, 0), 2);
        Check.due("PICK of the later one", x.law(0, 4), 1);
    }

    private static void whatIsNoPartOfIt() {
        ThirdSon x = Twins.duchy();
        x.keep(0);
        x.forget(1);
        x.end(4);
        x.sheet(3, 0, 1);
        x.read(3, 0, 0, 0);
        x.back(0);
        Check.due("SEEN", x.count(0), 1);
        Check.due("IMAGES", x.count(1), 2);
        Check.due("bytes on THE TAPE", x.count(2), 4);
        Check.due("SHEET 3", x.lay(3, 0, 0), 1);
        Check.due("torn()", x.torn(), 0);
        Check.due("fault()", x.fault(), 1);
        Check.due("text()", x.text(), 1);
    }

    private static void goneByAText() {
        for (int k = 0; k < 2; k++) {
            ThirdSon x = Check.told(TWO);
            x.keep(k);
            Check.tell(x, "one;?");
            Check.due("keep(" + k + ") behind a FAULT", x.keep(k), 1);
            x.text();
            Check.due("IMAGES behind a text of no lines", x.count(1), 0);
            Check.due("keep(" + k + ") behind it", x.keep(k), 0);
        }
    }

    private static void ofNobody() {
        ThirdSon x = new ThirdSon();
        Check.due("keep(0), nobody there", x.keep(0), 0);
        x.weigh(2, 0);
        Check.due("keep(1), nobody there", x.keep(1), 0);
        x.back(0);
        Check.due("ODDS of IMAGE 0", x.odd(2), 5);
        x.back(1);
        Check.due("ODDS of IMAGE 1", x.odd(2), 0);
    }

    private static void bad() {
        for (int k : new int[] {-1, 2, 32, Integer.MIN_VALUE, Integer.MAX_VALUE}) {
            Twins.bad("keep(" + k + ")", x -> x.keep(k));
            Check.due("keep(" + k + ") of a new object", new ThirdSon().keep(k), -1);
        }
        // nothing but the IMAGE is changed
        Twins.unchanged("keep(0) once more", x -> x.keep(0), x -> x.keep(0), 1);
        Twins.unchanged("keep(1) once more", x -> x.keep(1), x -> x.keep(1), 1);
    }
}
