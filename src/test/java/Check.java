/** Counts what is as due, and tells what is not. */
final class Check {
    private static int right;
    private static int wrong;

    private Check() {
    }

    static void due(String call, long got, long want) {
        if (got == want) {
            right++;
            return;
        }
        wrong++;
        if (wrong <= 50) {
            System.out.println(call + " answered " + got + ", due is " + want);
        }
    }

    /** Feeds a text and takes it: what text() answers. */
    static int tell(ThirdSon x, String text) {
        write(x, text);
        return x.text();
    }

    static void write(ThirdSon x, String text) {
        for (int i = 0; i < text.length(); i++) {
            x.feed(text.charAt(i));
        }
    }

    /** A new object that has been told a text without a fault. */
    static ThirdSon told(String text) {
        ThirdSon x = new ThirdSon();
        int lines = tell(x, text);
        due("text of \"" + text + "\" is taken", lines >= 0 ? 1 : lines, 1);
        return x;
    }

    /** Ends the test: exit code 1 if something was not as due. */
    static void close(String test) {
        System.out.println(test + ": " + right + " right, " + wrong + " wrong");
        if (wrong != 0 || right == 0) {
            System.exit(1);
        }
    }
}
