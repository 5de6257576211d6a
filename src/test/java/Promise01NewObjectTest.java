/** Promise 1: a new object has nobody, no RULES, SHEETS of nothing, and all else as at first. */
public final class Promise01NewObjectTest {
    private Promise01NewObjectTest() {
    }

    public static void main(String[] args) {
        isNew("a new object", new ThirdSon());
        nothingIsShared();
        theLastCall();
        Check.close("Promise01NewObjectTest");
    }

    private static void isNew(String which, ThirdSon x) {
        for (int what = 0; what <= 2; what++) {
            Check.due(which + ": rule(" + what + ")", x.rule(what), 0);
        }
        for (int i = 0; i <= 5; i++) {
            Check.due(which + ": no ONE " + i, x.one(i, 2), -1);
            Check.due(which + ": no RULE " + i, x.law(i, 0), -1);
        }
        for (int f = 0; f <= 4; f++) {
            Check.due(which + ": ODDS of " + f, x.odd(f), 5);
        }
        int[] counts = {0, 0, 0, -4, 0, 0, 0};
        for (int what = 0; what <= 6; what++) {
            Check.due(which + ": count(" + what + ")", x.count(what), counts[what]);
        }
        Check.due(which + ": fault()", x.fault(), 0);
        Check.due(which + ": torn()", x.torn(), 0);
        Check.due(which + ": no IMAGE 0", x.back(0), -2);
        Check.due(which + ": no IMAGE 1", x.back(1), -2);
        for (int t = 0; t <= 3; t++) {
            Check.due(which + ": owner(" + t + ")", x.owner(t), -4);
            Check.due(which + ": by(" + t + ")", x.by(t), -4);
        }
        sheetsHaveNothing(which, x);
    }

    private static void sheetsHaveNothing(String which, ThirdSon x) {
        for (int k = 0; k <= 3; k++) {
            Check.due(which + ": lay(" + k + ", 0, 0)", x.lay(k, 0, 0), -11);
            for (int lane = 0; lane <= 2; lane++) {
                Check.due(which + ": read of SHEET " + k, x.read(k, lane, 0, 1), 0);
                Check.due(which + ": NULL of SHEET " + k, x.torn(), 1);
                x.read(k, lane, 0, 0);
            }
        }
    }

    private static void nothingIsShared() {
        ThirdSon ahead = new ThirdSon();
        ThirdSon used = Twins.duchy();
        isNew("an object behind another's calls", new ThirdSon());
        isNew("an object made ahead of another's calls", ahead);
        Check.due("the other one keeps its PEOPLE", used.rule(0), 4);
    }

    private static void theLastCall() {
        ThirdSon x = new ThirdSon();
        for (int call = 1; call < 512; call++) {
            Check.due("call " + call, x.feed('x'), call <= 160 ? call : -3);
        }
        Check.due("call 512", x.count(2), 160);
    }
}
