/** Promise 5: the FAULT of the latest text(); 0. */
public final class Promise05FaultTest {
    private Promise05FaultTest() {
    }

    public static void main(String[] args) {
        atFirst();
        ofTheLatestText();
        otherCallsLeaveIt();
        Check.close("Promise05FaultTest");
    }

    private static void atFirst() {
        Check.due("fault() ahead of any text", new ThirdSon().fault(), 0);
        ThirdSon x = new ThirdSon();
        x.feed('?');
        Check.due("fault() of what is not taken yet", x.fault(), 0);
    }

    private static void ofTheLatestText() {
        String[] texts = {"?", ";", "gone 6;", "gone 0;gone 0;", "one;one;one;one;one;one;one;",
            "gone 0;", "rule1 0any0last;rule1 0any0last;"};
        ThirdSon x = new ThirdSon();
        for (int kind = 7; kind > 0; kind--) {
            Check.tell(x, texts[kind - 1]);
            Check.due("fault() of \"" + texts[kind - 1] + "\"", x.fault(), kind);
            Check.due("fault() asked again", x.fault(), kind);
        }
        Check.tell(x, "one;");
        Check.due("fault() of a text that is taken", x.fault(), 0);
        Check.tell(x, "?");
        x.text();
        Check.due("fault() of an empty text", x.fault(), 0);
    }

    private static void otherCallsLeaveIt() {
        ThirdSon x = Check.told("one;");
        Check.tell(x, "gone 6;");
        x.feed(';');
        x.end(0);
        x.does(5);
        x.does(70);
        x.read(0, 0, 0, 1);
        x.keep(0);
        x.back(0);
        Check.due("fault() behind other calls", x.fault(), 3);
        Twins.unchanged("fault()", y -> y.fault(), 1);
    }
}
