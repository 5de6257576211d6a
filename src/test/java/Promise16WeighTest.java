/** Promise 16: ODDS of a FACT become v: what they were; BAD. */
public final class Promise16WeighTest {
    private Promise16WeighTest() {
    }

    public static void main(String[] args) {
        fromNoneToAllTenths();
        ofThatFactAlone();
        bad();
        Check.close("Promise16WeighTest");
    }

    private static void fromNoneToAllTenths() {
        ThirdSon x = new ThirdSon();
        int were = 5;
        for (int v = 0; v <= 10; v++) {
            Check.due("weigh(4, " + v + ")", x.weigh(4, v), were);
            Check.due("odd(4)", x.odd(4), v);
            were = v;
        }
        Twins.unchanged("weigh(0, 9), as they were", y -> y.weigh(0, 9), 9);
    }

    private static void ofThatFactAlone() {
        for (int f = 0; f <= 4; f++) {
            ThirdSon x = Check.told("one;");
            x.weigh(f, 8);
            for (int g = 0; g <= 4; g++) {
                Check.due("odd(" + g + ") behind weigh(" + f + ", 8)", x.odd(g), g == f ? 8 : 5);
            }
        }
    }

    private static void bad() {
        int[][] bad = {{0, -1}, {0, 11}, {-1, 5}, {5, 5}, {-1, 11}, {Integer.MIN_VALUE, 1},
            {Integer.MAX_VALUE, 1}, {0, Integer.MIN_VALUE}, {0, Integer.MAX_VALUE}};
        for (int[] b : bad) {
            Twins.bad("weigh(" + b[0] + ", " + b[1] + ")", x -> x.weigh(b[0], b[1]));
        }
    }
}
