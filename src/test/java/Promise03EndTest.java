/** Promise 3: THE TAPE keeps its first n bytes: how many it had; BAD. */
public final class Promise03EndTest {
    private Promise03EndTest() {
    }

    public static void main(String[] args) {
        howManyItHad();
        theFirstOnes();
        bad();
        Check.close("Promise03EndTest");
    }

    private static void howManyItHad() {
        ThirdSon x = new ThirdSon();
        Check.due("end(0) of an empty TAPE", x.end(0), 0);
        Check.write(x, "one;one;");
        Twins.unchanged("end(10), all that there are", y -> y.end(10), 10);
        Check.due("end(8)", x.end(8), 8);
        Check.due("end(7)", x.end(7), 8);
        Check.due("end(7) again", x.end(7), 7);
        Check.due("bytes", x.count(2), 7);
        Check.due("end(0)", x.end(0), 7);
        Check.due("no bytes", x.count(2), 0);
        for (int i = 0; i < 160; i++) {
            x.feed(' ');
        }
        Check.due("end(161) of a full TAPE", x.end(161), -1);
        Check.due("end(160) of a full TAPE", x.end(160), 160);
        Check.due("end(159) of a full TAPE", x.end(159), 160);
        Check.due("end(160) of one less", x.end(160), -1);
    }

    private static void theFirstOnes() {
        ThirdSon x = new ThirdSon();
        Check.write(x, "one;odds 1 2;");
        x.end(4);
        Check.due("the first 4 bytes tell", x.text(), 1);
        Check.due("PEOPLE", x.rule(0), 1);
        Check.due("ODDS of 1", x.odd(1), 5);
        Check.write(x, "one;?");
        x.end(4);
        x.feed(';');
        Check.due("a byte behind the first 4", x.text(), -14);
        Check.due("FAULT of that byte", x.fault(), 2);
    }

    private static void bad() {
        int[] bad = {-1, 11, 160, 161, Integer.MIN_VALUE, Integer.MAX_VALUE};
        for (int n : bad) {
            Twins.bad("end(" + n + ") of 10 bytes", x -> x.end(n));
        }
        ThirdSon x = new ThirdSon();
        Check.due("end(1) of an empty TAPE", x.end(1), -1);
        Check.due("bytes behind it", x.count(2), 0);
    }
}
