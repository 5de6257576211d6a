import java.util.ArrayList;
import java.util.List;
import java.util.Random;

/** Runs of calls by fixed seeds, each answer compared with the document told once more. */
public final class RandomTest {
    private static final int RUNS = 800;
    /** What later calls answer is free. */
    private static final int MOST_CALLS = 512;
    private static final int CALLS_OF_A_TEXT = 163;
    private static final int CALLS_OF_A_LOOK = 55;
    private static final String[] CLAIMS = {"any", "born", "fact", "tried", "kin", "bare"};
    private static final String[] PICKS = {"first", "third", "last"};

    private final Random random;
    private final ThirdSon x = new ThirdSon();
    private final Oracle due = new Oracle();
    private final String run;
    private int calls;

    private RandomTest(int seed) {
        random = new Random(seed);
        run = "seed " + seed + ", call ";
    }

    public static void main(String[] args) {
        for (int seed = 0; seed < RUNS; seed++) {
            new RandomTest(seed).run();
        }
        Check.close("RandomTest");
    }

    private void run() {
        writeAndTake(randomText());
        // one call of the document may be two here: read(), then torn()
        int most = MOST_CALLS - CALLS_OF_A_LOOK - 1;
        while (calls < most) {
            if (random.nextInt(60) == 0 && calls + CALLS_OF_A_TEXT <= most) {
                writeAndTake(randomText());
            } else {
                call(random.nextInt(39));
            }
        }
        lookAround();
        Check.due(run + calls + ": at most 512 calls", calls <= MOST_CALLS ? 1 : 0, 1);
    }

    private void check(String call, long got, long want) {
        calls++;
        Check.due(run + calls + ": " + call, got, want);
    }

    private int upTo(int most) {
        // now and then a number that is not as told
        switch (random.nextInt(60)) {
            case 0:
                return -1 - random.nextInt(5);
            case 1:
                return most + 1;
            case 2:
                return random.nextInt();
            case 3:
                return random.nextBoolean() ? Integer.MIN_VALUE : Integer.MAX_VALUE;
            default:
                return random.nextInt(most + 1);
        }
    }

    private int one() {
        return upTo(Math.max(0, due.world.people.size() - 1));
    }

    private int law() {
        return upTo(Math.max(0, due.world.rules.size() - 1));
    }

    private void writeAndTake(String text) {
        if (random.nextInt(10) > 0) {
            check("end(0)", x.end(0), due.end(0));
        }
        for (int i = 0; i < text.length(); i++) {
            char c = text.charAt(i);
            check("feed of " + c, x.feed(c), due.feed(c));
        }
        check("text() of \"" + text + "\"", x.text(), due.text());
        check("fault()", x.fault(), due.fault());
    }

    private String randomText() {
        List<String> lines = new ArrayList<>();
        int people = random.nextInt(12) == 0 ? random.nextInt(8) : 3 + random.nextInt(4);
        int rules = random.nextInt(12) == 0 ? random.nextInt(7) : 2 + random.nextInt(4);
        for (int p = 0; p < people; p++) {
            boolean child = p > 0 && random.nextInt(3) > 0;
            lines.add(child ? "one" + gap() + random.nextInt(random.nextInt(p) + 1) : "one");
        }
        for (int k = 0; k < rules; k++) {
            lines.add(random.nextInt(lines.size() + 1), randomRule(k, Math.max(1, people)));
        }
        int known = random.nextInt(4);
        for (int i = 0; i < known; i++) {
            lines.add("fact " + random.nextInt(Math.max(1, people)) + " " + random.nextInt(5));
        }
        if (random.nextInt(3) == 0) {
            lines.add(random.nextInt(lines.size() + 1), "odds" + random.nextInt(5) + " "
                + random.nextInt(11));
        }
        if (random.nextInt(3) == 0) {
            lines.add("gone" + gap() + random.nextInt(Math.max(1, people)));
        }
        StringBuilder text = new StringBuilder();
        for (String line : lines) {
            text.append(line).append(gap()).append(";").append(gap());
        }
        for (int hurt = random.nextInt(10) - 8; hurt >= 0 && text.length() > 0; hurt--) {
            spoil(text);
        }
        if (text.length() > 160) {
            text.setLength(160);
            text.setLength(text.lastIndexOf(";") + 1);
        }
        return text.toString();
    }

    private String gap() {
        return random.nextInt(6) == 0 ? " " : "";
    }

    private String randomRule(int k, int people) {
        // facts and tries bear more of what deeds can change
        int claim = random.nextInt(3) == 0 ? 2 + random.nextInt(2) : random.nextInt(6);
        int rank = random.nextInt(12) == 0 ? 1 + random.nextInt(9) : 1 + (4 * k + people) % 9;
        int[] most = {9, 4, 4, 3, people - 1, 3};
        int number = claim == 1 ? 1 + random.nextInt(4) : random.nextInt(most[claim] + 1);
        if (claim == 2) {
            number = random.nextInt(3);
        }
        return "rule" + gap() + rank + " "
            + (random.nextInt(3) == 0 ? random.nextInt(4) : 0) + gap() + CLAIMS[claim] + number + gap()
            + PICKS[random.nextInt(3)];
    }

    private void spoil(StringBuilder text) {
        String bytes = "  0123456789;;abcdefghijklmnopqrstuvwxyz\t\u0000\u007fA?";
        int place = random.nextInt(text.length());
        char c = bytes.charAt(random.nextInt(bytes.length()));
        switch (random.nextInt(4)) {
            case 0:
                text.setCharAt(place, c);
                break;
            case 1:
                text.insert(place, c);
                break;
            case 2:
                text.deleteCharAt(place);
                break;
            default:
                text.setLength(place);
                break;
        }
    }

    private void call(int promise) {
        if (promise < 12) {
            callChange(promise);
        } else if (promise < 26) {
            callCases(promise);
        } else {
            callRest(promise);
        }
    }

    private void callChange(int promise) {
        int a;
        int b;
        switch (promise) {
            case 0:
                a = upTo(127);
                check("feed(" + a + ")", x.feed(a), due.feed(a));
                break;
            case 1:
                a = upTo(Math.max(0, due.tape.length()));
                check("end(" + a + ")", x.end(a), due.end(a));
                break;
            case 2:
            case 3:
            case 4:
            case 5:
                a = random.nextInt(12) == 0 ? random.nextInt(90) - 10 : 10 * one() + upTo(6);
                check("does(" + a + ")", x.does(a), due.does(a));
                break;
            case 6:
                a = one();
                check("comes(" + a + ")", x.comes(a), due.comes(a));
                break;
            case 7:
                a = one();
                b = upTo(3);
                check("tries(" + a + ", " + b + ")", x.tries(a, b), due.tries(a, b));
                break;
            case 8:
                a = one();
                b = upTo(4);
                check("hush(" + a + ", " + b + ")", x.hush(a, b), due.hush(a, b));
                break;
            case 9:
                a = upTo(4);
                b = upTo(10);
                check("weigh(" + a + ", " + b + ")", x.weigh(a, b), due.weigh(a, b));
                break;
            case 10:
                a = law();
                b = 1 + upTo(8);
                check("rank(" + a + ", " + b + ")", x.rank(a, b), due.rank(a, b));
                break;
            default:
                a = law();
                b = upTo(2);
                check("pick(" + a + ", " + b + ")", x.pick(a, b), due.pick(a, b));
                break;
        }
    }

    private void callCases(int promise) {
        int a = one();
        int t = upTo(3);
        int n = upTo(3);
        int w;
        switch (promise) {
            case 12:
            case 13:
                // three deeds are dear to the slow telling
                boolean dear = due.world.people.size() > 4 && random.nextInt(20) > 0;
                n = n == 3 && dear ? 2 : n;
                t = random.nextInt(3) == 0 ? t : 0;
                w = random.nextInt(5) == 0 ? upTo(14) : random.nextInt(2) * (10 + upTo(2));
                check("claim(" + a + ", " + t + ", " + n + ", " + w + ")", x.claim(a, t, n, w),
                    due.claim(a, t, n, w));
                break;
            case 14:
                check("pivot(" + t + ")", x.pivot(t), due.pivot(t));
                break;
            case 15:
                check("spoils(" + a + ")", x.spoils(a), due.spoils(a));
                break;
            case 16:
            case 17:
                w = upTo(2);
                check("dead(" + w + ")", x.dead(w), due.dead(w));
                break;
            case 18:
                w = upTo(1);
                check("least(" + w + ")", x.least(w), due.least(w));
                break;
            case 19:
                check("who(" + t + ")", x.who(t), due.who(t));
                break;
            case 20:
                check("via(" + a + ", " + t + ")", x.via(a, t), due.via(a, t));
                break;
            case 21:
            case 22:
                n = upTo(10);
                w = upTo(1);
                t = random.nextInt(3) == 0 ? t : 0;
                check("odds(" + n + ", " + a + ", " + t + ", " + w + ")", x.odds(n, a, t, w),
                    due.odds(n, a, t, w));
                break;
            case 23:
                n = upTo(2);
                check("turn(" + n + ", " + t + ")", x.turn(n, t), due.turn(n, t));
                break;
            default:
                w = upTo(2);
                t = random.nextInt(3) == 0 ? t : 0;
                check("best(" + a + ", " + t + ", " + n + ", " + w + ")", x.best(a, t, n, w),
                    due.best(a, t, n, w));
                break;
        }
    }

    private void callRest(int promise) {
        int a = upTo(3);
        // most sheets keep to one lane, so that they can be read
        int b = random.nextInt(4) == 0 ? upTo(2) : (a & 3) % 3;
        int c;
        int d;
        switch (promise) {
            case 26:
            case 27:
                b = random.nextInt(4) == 0 ? Oracle.NONE : one();
                check("see(" + a + ", " + b + ")", x.see(a, b), due.see(a, b));
                break;
            case 28:
                a = upTo(6);
                check("forget(" + a + ")", x.forget(a), due.forget(a));
                break;
            case 29:
                check("fits(" + a + ")", x.fits(a), due.fits(a));
                break;
            case 30:
                a = random.nextInt();
                b = 1 + upTo(59);
                c = upTo(1);
                check("drift(" + a + ", " + b + ", " + c + ")", x.drift(a, b, c),
                    due.drift(a, b, c));
                break;
            case 31:
                a = upTo(1);
                check("keep(" + a + ")", x.keep(a), due.keep(a));
                break;
            case 32:
                a = upTo(1);
                check("back(" + a + ")", x.back(a), due.back(a));
                break;
            case 33:
                c = random.nextInt(3) == 0 ? upTo(40) : upTo(6);
                check("sheet(" + a + ", " + b + ", " + c + ")", x.sheet(a, b, c),
                    due.sheet(a, b, c));
                break;
            case 34:
            case 35:
                c = upTo(6);
                d = random.nextInt(8) == 0 ? random.nextInt() : 10 * one() + upTo(6)
                    + (random.nextInt(8) == 0 ? 65536 * random.nextInt(9) : 0);
                check("lay(" + a + ", " + c + ", " + d + ")", x.lay(a, c, d), due.lay(a, c, d));
                break;
            case 36:
                c = upTo(4);
                d = random.nextInt(6) == 0 ? upTo(20) : upTo(4);
                check("read(" + a + ", " + b + ", " + c + ", " + d + ")", x.read(a, b, c, d),
                    due.read(a, b, c, d));
                check("torn()", x.torn(), due.torn());
                break;
            case 37:
                c = upTo(6);
                check("count(" + c + ")", x.count(c), due.count(c));
                break;
            default:
                check("fault()", x.fault(), due.fault());
                break;
        }
    }

    /** All that is there, behind all other calls. */
    private void lookAround() {
        for (int what = 0; what <= 6; what++) {
            check("rule(" + what + ")", x.rule(what), due.rule(what));
            check("count(" + what + ")", x.count(what), due.count(what));
        }
        int p = one();
        for (int what = 0; what <= 6; what++) {
            check("one(" + p + ", " + what + ")", x.one(p, what), due.one(p, what));
        }
        for (int k = 0; k < 2; k++) {
            int law = law();
            for (int what = 0; what <= 7; what++) {
                check("law(" + law + ", " + what + ")", x.law(law, what), due.law(law, what));
            }
        }
        for (int f = 0; f <= 5; f++) {
            check("odd(" + f + ")", x.odd(f), due.odd(f));
        }
        for (int t = -1; t <= 4; t++) {
            check("owner(" + t + ")", x.owner(t), due.owner(t));
            check("by(" + t + ")", x.by(t), due.by(t));
        }
    }
}
