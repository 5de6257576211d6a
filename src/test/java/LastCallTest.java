import java.util.ArrayList;
import java.util.List;

/** What it is: an object is used for at most 512 calls; the last of them answer as the first. */
public final class LastCallTest {
    private static final int MOST_CALLS = 512;
    /** Of 0: 1, 2, 3. */
    private static final String TOLD = "one;one0;one0;one0;fact1 2;odds0 3;rule1 0born3first;"
        + "rule2 0fact1last;rule1 1tried1third;";

    private static final class Call {
        final String name;
        final Twins.Ask ask;
        final long due;

        Call(String name, Twins.Ask ask, long due) {
            this.name = name;
            this.ask = ask;
            this.due = due;
        }
    }

    private final ThirdSon x = new ThirdSon();
    private int calls;

    private LastCallTest() {
        for (int i = 0; i < TOLD.length(); i++) {
            x.feed(TOLD.charAt(i));
        }
        x.text();
        x.tries(2, 1);
        x.keep(1);
        x.see(0, 3);
        x.sheet(0, 1, 2);
        x.lay(0, 0, 15);
        x.lay(0, 1, 36);
        x.read(0, 1, 2, 1);
        calls = TOLD.length() + 8;
    }

    public static void main(String[] args) {
        List<Call> asked = whatIsAsked();
        for (Call call : whatIsAsked()) {
            firstAndLast(call, asked);
        }
        for (Call call : whatIsChanged()) {
            firstAndLast(call, asked);
        }
        changedByTheLastButOne(asked);
        theDearestAllAlong();
        Check.close("LastCallTest");
    }

    /** Asks until there are just so many calls; what is asked changes nothing. */
    private void useUp(int most, List<Call> asked) {
        for (int i = 0; calls < most; i++) {
            Call call = asked.get(i % asked.size());
            answers("call " + (calls + 1), call);
        }
    }

    private void answers(String when, Call call) {
        calls++;
        Check.due(when + ", " + call.name, call.ask.of(x), call.due);
    }

    private static void firstAndLast(Call call, List<Call> asked) {
        new LastCallTest().answers("early", call);
        LastCallTest late = new LastCallTest();
        late.useUp(MOST_CALLS - 1, asked);
        late.answers("call 512", call);
        Check.due("calls in all", late.calls, MOST_CALLS);
    }

    private static List<Call> whatIsAsked() {
        List<Call> all = new ArrayList<>();
        all.add(new Call("fault()", x -> x.fault(), 0));
        all.add(new Call("rule(0)", x -> x.rule(0), 4));
        all.add(new Call("one(3, 4)", x -> x.one(3, 4), 3));
        all.add(new Call("odd(0)", x -> x.odd(0), 3));
        all.add(new Call("law(0, 6)", x -> x.law(0, 6), 3));
        all.add(new Call("owner(0)", x -> x.owner(0), 3));
        all.add(new Call("by(0)", x -> x.by(0), 0));
        all.add(new Call("claim(1, 0, 2, 11)", x -> x.claim(1, 0, 2, 11), 26));
        all.add(new Call("pivot(0)", x -> x.pivot(0), 14));
        all.add(new Call("spoils(3)", x -> x.spoils(3), 0));
        all.add(new Call("dead(0)", x -> x.dead(0), 6));
        all.add(new Call("least(1)", x -> x.least(1), 1));
        all.add(new Call("who(0)", x -> x.who(0), 8));
        all.add(new Call("via(3, 0)", x -> x.via(3, 0), 1));
        all.add(new Call("odds(5, 3, 0, 1)", x -> x.odds(5, 3, 0, 1), 8));
        all.add(new Call("turn(2, 1)", x -> x.turn(2, 1), 2));
        all.add(new Call("best(3, 0, 3, 0)", x -> x.best(3, 0, 3, 0), 1));
        all.add(new Call("fits(0)", x -> x.fits(0), 2));
        all.add(new Call("drift(1, 1, 1)", x -> x.drift(1, 1, 1), 3));
        all.add(new Call("torn()", x -> x.torn(), 2));
        all.add(new Call("count(6)", x -> x.count(6), 1));
        return all;
    }

    private static List<Call> whatIsChanged() {
        List<Call> all = new ArrayList<>();
        all.add(new Call("feed(';')", x -> x.feed(';'), 1));
        all.add(new Call("end(0)", x -> x.end(0), 0));
        all.add(new Call("text()", x -> x.text(), 0));
        all.add(new Call("does(36)", x -> x.does(36), 0));
        all.add(new Call("comes(1)", x -> x.comes(1), 0));
        all.add(new Call("tries(2, 3)", x -> x.tries(2, 3), 1));
        all.add(new Call("hush(1, 2)", x -> x.hush(1, 2), 1));
        all.add(new Call("weigh(0, 9)", x -> x.weigh(0, 9), 3));
        all.add(new Call("rank(1, 5)", x -> x.rank(1, 5), 2));
        all.add(new Call("pick(0, 2)", x -> x.pick(0, 2), 0));
        all.add(new Call("see(1, -4)", x -> x.see(1, -4), 2));
        all.add(new Call("forget(0)", x -> x.forget(0), 1));
        all.add(new Call("keep(0)", x -> x.keep(0), 0));
        all.add(new Call("back(1)", x -> x.back(1), 0));
        all.add(new Call("sheet(0, 2, 3)", x -> x.sheet(0, 2, 3), 1));
        all.add(new Call("lay(0, 1, 5)", x -> x.lay(0, 1, 5), 1));
        all.add(new Call("read(0, 1, 0, 2)", x -> x.read(0, 1, 0, 2), 2));
        return all;
    }

    private static void changed(Call change, Call look, List<Call> asked) {
        LastCallTest late = new LastCallTest();
        late.useUp(MOST_CALLS - 2, asked);
        late.answers("call 511", change);
        late.answers("call 512", look);
    }

    private static void changedByTheLastButOne(List<Call> asked) {
        List<Call> looks = new ArrayList<>();
        looks.add(new Call("count(2)", x -> x.count(2), 1));
        looks.add(new Call("count(2)", x -> x.count(2), 0));
        looks.add(new Call("rule(0)", x -> x.rule(0), 0));
        looks.add(new Call("rule(2)", x -> x.rule(2), 8));
        looks.add(new Call("rule(2)", x -> x.rule(2), 0));
        looks.add(new Call("one(2, 2)", x -> x.one(2, 2), 3));
        looks.add(new Call("count(5)", x -> x.count(5), 0));
        looks.add(new Call("odd(0)", x -> x.odd(0), 9));
        looks.add(new Call("law(1, 0)", x -> x.law(1, 0), 5));
        looks.add(new Call("law(0, 4)", x -> x.law(0, 4), 2));
        looks.add(new Call("count(0)", x -> x.count(0), 2));
        looks.add(new Call("count(0)", x -> x.count(0), 0));
        looks.add(new Call("count(1)", x -> x.count(1), 2));
        looks.add(new Call("back(1)", x -> x.back(1), 0));
        looks.add(new Call("count(3)", x -> x.count(3), 3));
        looks.add(new Call("read(0, 1, 1, 1)", x -> x.read(0, 1, 1, 1), -20));
        looks.add(new Call("rule(2)", x -> x.rule(2), 8));
        List<Call> changes = whatIsChanged();
        // CELL 1 becomes a deed that there is not
        changes.set(15, new Call("lay(0, 1, 7)", x -> x.lay(0, 1, 7), 1));
        Check.due("a look for each change", looks.size(), changes.size());
        for (int i = 0; i < looks.size(); i++) {
            changed(changes.get(i), looks.get(i), asked);
        }
    }

    /** Of six PEOPLE all rows of three DEEDS are looked at, as often as there are calls. */
    private static void theDearestAllAlong() {
        String told = "one;one0;one0;one0;one0;one0;rule1 0any0first;rule2 0kin0last;"
            + "rule3 0bare1third;rule4 0born2last;rule5 0tried3last;";
        ThirdSon x = Check.told(told);
        for (int call = told.length() + 2; call <= MOST_CALLS; call++) {
            Check.due("call " + call + ", claim(5, 0, 3, 0)", x.claim(5, 0, 3, 0), -4);
        }
    }
}
