/** Promises 1 to 5, and FAULTS of a text. */
public final class TextTest {
    private TextTest() {
    }

    public static void main(String[] args) {
        aNewObject();
        feed();
        end();
        textsThatAreTaken();
        noTokens();
        misplacedTokens();
        outOfBounds();
        toldAlready();
        tooMany();
        behindAll();
        whatStays();
        whatIsAsAtFirst();
        Check.close("TextTest");
    }

    private static void aNewObject() {
        ThirdSon x = new ThirdSon();
        for (int what = 0; what <= 2; what++) {
            Check.due("new: rule(" + what + ")", x.rule(what), 0);
        }
        for (int f = 0; f <= 4; f++) {
            Check.due("new: odd(" + f + ")", x.odd(f), 5);
        }
        for (int k = 0; k <= 3; k++) {
            Check.due("new: lay(" + k + ", 0, 1)", x.lay(k, 0, 1), -11);
            Check.due("new: owner(" + k + ")", x.owner(k), -4);
            Check.due("new: by(" + k + ")", x.by(k), -4);
        }
        Check.due("new: fault()", x.fault(), 0);
        Check.due("new: torn()", x.torn(), 0);
        Check.due("new: one(0, 0)", x.one(0, 0), -1);
        Check.due("new: law(0, 0)", x.law(0, 0), -1);
        Check.due("new: back(0)", x.back(0), -2);
        int[] counts = {0, 0, 0, -4, 0, 0, 0};
        for (int what = 0; what <= 6; what++) {
            Check.due("new: count(" + what + ")", x.count(what), counts[what]);
        }
    }

    private static void feed() {
        ThirdSon x = new ThirdSon();
        Check.due("feed(-1)", x.feed(-1), -1);
        Check.due("feed(128)", x.feed(128), -1);
        Check.due("feed(0)", x.feed(0), 1);
        Check.due("feed(127)", x.feed(127), 2);
        for (int i = 3; i <= 160; i++) {
            Check.due("feed(32), the byte " + i, x.feed(32), i);
        }
        Check.due("the 161st byte", x.feed(32), -3);
        Check.due("no byte on a full tape", x.feed(128), -1);
        Check.due("bytes on a full tape", x.count(2), 160);
    }

    private static void end() {
        ThirdSon x = new ThirdSon();
        Check.due("end(0) of none", x.end(0), 0);
        Check.due("end(1) of none", x.end(1), -1);
        Check.write(x, "one;x");
        Check.due("end(-1)", x.end(-1), -1);
        Check.due("end(6)", x.end(6), -1);
        Check.due("end(5)", x.end(5), 5);
        Check.due("end(4)", x.end(4), 5);
        Check.due("bytes behind end(4)", x.count(2), 4);
        Check.due("feed behind end", x.feed(' '), 5);
        Check.due("text behind end", x.text(), 1);
    }

    private static void takes(String text, int lines) {
        ThirdSon x = new ThirdSon();
        Check.due("text of \"" + text + "\"", Check.tell(x, text), lines);
        Check.due("fault of \"" + text + "\"", x.fault(), 0);
        Check.due("tape behind \"" + text + "\"", x.count(2), 0);
    }

    private static void refuses(String text, int kind, int place) {
        ThirdSon x = new ThirdSon();
        Check.due("text of \"" + text + "\"", Check.tell(x, text), -10 - place);
        Check.due("fault of \"" + text + "\"", x.fault(), kind);
        Check.due("tape behind \"" + text + "\"", x.count(2), 0);
        Check.due("people behind \"" + text + "\"", x.rule(0), 0);
        Check.due("rules behind \"" + text + "\"", x.rule(1), 0);
    }

    private static void textsThatAreTaken() {
        takes("", 0);
        takes("    ", 0);
        takes("one;", 1);
        takes("  one  ;  one   0  ;  ", 2);
        takes("one;one0;one00;one 01;", 4);
        takes("fact 0 1;gone 0;rule 1 0 kin 0 last;one;", 4);
        takes("one;rule1 0any0first;rule2 0born6last;rule9 3bare5third;rule3 1any9last;", 5);
        takes("rule 1 0 any 0 first;rule 1 1 any 0 first;", 2);
        takes("odds 0 0;odds 1 10;odds 2 05;", 3);
        takes("one;one 0;one 0;one 1;one;one 4;", 6);
        takes("one;one;one;one;one;one;fact 5 4;gone 5;rule 9 3 kin 5 last;", 9);
        ThirdSon x = Check.told("fact 0 4;one;one 0;odds 3 10;rule 9 3 born 6 third;gone 1;");
        Check.due("told: FACTS", x.one(0, 1), 16);
        Check.due("told: PARENT", x.one(1, 0), 0);
        Check.due("told: ODDS", x.odd(3), 10);
        Check.due("told: GONE", x.rule(2), 2);
        int[] law = {9, 3, 1, 6, 1};
        for (int what = 0; what < 5; what++) {
            Check.due("told: law(0, " + what + ")", x.law(0, what), law[what]);
        }
        String[] claims = {"any", "born", "fact", "tried", "kin", "bare"};
        String[] picks = {"first", "third", "last"};
        for (int claim = 0; claim < 6; claim++) {
            x = Check.told("one;one;rule 1 0 " + claims[claim] + " 1 " + picks[claim / 2] + ";");
            Check.due("told: CLAIM " + claims[claim], x.law(0, 2), claim);
            Check.due("told: v of " + claims[claim], x.law(0, 3), 1);
            Check.due("told: PICK " + picks[claim / 2], x.law(0, 4), claim / 2);
        }
    }

    private static void noTokens() {
        refuses("?", 1, 0);
        refuses("one;?", 1, 4);
        refuses("one\t;", 1, 3);
        refuses("one\n;", 1, 3);
        refuses("One;", 1, 0);
        refuses("oneE;", 1, 3);
        refuses("one,", 1, 3);
        refuses("one;\0", 1, 4);
        refuses("\0one;", 1, 0);
        refuses("123;", 1, 0);
        refuses("one;  one 000;", 1, 10);
        refuses("fact 001 0;", 1, 5);
        refuses("fact 1 9999999999999;", 1, 7);
        refuses("rule 1 0 -", 1, 9);
    }

    private static void misplacedTokens() {
        refuses(";", 2, 0);
        refuses("  ;", 2, 2);
        refuses("12;", 2, 0);
        refuses("any;", 2, 0);
        refuses("ones;", 2, 0);
        refuses("nne;", 2, 0);
        refuses("z;", 2, 0);
        refuses("onez;", 2, 0);
        refuses("on e;", 2, 0);
        refuses("onE;", 2, 0);
        refuses("one", 2, 3);
        refuses("one  ", 2, 5);
        refuses("one;one 0", 2, 9);
        refuses("one one;", 2, 4);
        refuses("one;one 0 0;", 2, 10);
        refuses("one;;", 2, 4);
        refuses("fact;", 2, 4);
        refuses("fact 0;", 2, 6);
        refuses("fact 00;", 2, 7);
        refuses("fact 0 0 0;", 2, 9);
        refuses("gone;", 2, 4);
        refuses("gone 0 1;", 2, 7);
        refuses("odds 1;", 2, 6);
        refuses("odds", 2, 4);
        refuses("rule 1 0 0 first;", 2, 9);
        refuses("rule 1 0 first 0 first;", 2, 9);
        refuses("rule 1 0 one 0 first;", 2, 9);
        refuses("rule 1 0 anyone 0 first;", 2, 9);
        refuses("rule 1 0 any first;", 2, 13);
        refuses("rule 1 0 any 0 any;", 2, 15);
        refuses("rule 1 0 any 0 firs;", 2, 15);
        refuses("rule 1 0 any 0 ;", 2, 15);
        refuses("rule 1 0 any 0 first", 2, 20);
        refuses("rule 1 0 any 0 first 1;", 2, 21);
        refuses("rule 10;", 3, 5);
    }

    private static void outOfBounds() {
        refuses("one 0;", 3, 4);
        refuses("one;one 1;", 3, 8);
        refuses("one;one;one 99?", 3, 12);
        refuses("fact 6 0;", 3, 5);
        refuses("fact 0 5;", 3, 7);
        refuses("gone 6;", 3, 5);
        refuses("odds 5 0;", 3, 5);
        refuses("odds 4 11;", 3, 7);
        refuses("rule 0 0 any 0 first;", 3, 5);
        refuses("rule 10 0 any 0 first;", 3, 5);
        refuses("rule 1 4 any 0 first;", 3, 7);
        refuses("rule 1 0 any 10 first;", 3, 13);
        refuses("rule 1 0 born 0 first;", 3, 14);
        refuses("rule 1 0 born 7 first;", 3, 14);
        refuses("rule 1 0 fact 5 first;", 3, 14);
        refuses("rule 1 0 tried 4 first;", 3, 15);
        refuses("rule 1 0 kin 6 first;", 3, 13);
        refuses("rule 1 0 bare 6 first;", 3, 14);
    }

    private static void toldAlready() {
        refuses("one;fact 0 1;fact 0 1;", 4, 20);
        refuses("fact 3 2;fact 3 2;", 4, 16);
        refuses("one;gone 0;gone 0;", 4, 16);
        refuses("gone 5;gone 5?", 4, 12);
        refuses("odds 4 1;odds 4 99;", 4, 14);
        refuses("odds 4 5;odds 4 5;", 4, 14);
        refuses("odds 4 5;odds 3 5;odds 4 5;", 4, 23);
        refuses("gone 1;gone 0;gone 1;", 4, 19);
        refuses("fact 1 1;fact 1 0;fact 1 1;", 4, 25);
        takes("one;one;fact 0 1;fact 1 1;fact 0 2;gone 0;gone 1;", 7);
    }

    private static void tooMany() {
        refuses("one;one;one;one;one;one;one 9;", 5, 24);
        refuses("one;one;one;one;one;one;one?", 5, 24);
        String five = "rule1 0any0first;rule2 0any0first;rule3 0any0first;rule4 0any0first;"
            + "rule5 0any0first;";
        takes(five, 5);
        refuses(five + " rule?", 5, 86);
        refuses(five + "rules", 2, 85);
    }

    private static void behindAll() {
        refuses("one;fact 1 0;", 6, 13);
        refuses("fact 0 0;  ", 6, 11);
        refuses("gone 0;   ", 6, 10);
        refuses("one;fact 1 0;fact 0 0;", 6, 22);
        refuses("one;gone 1;gone 0;", 6, 18);
        refuses("one;gone 1;fact 0 0;", 6, 20);
        refuses("one;rule1 0kin5last;rule2 0kin0last;", 6, 36);
        refuses("rule 1 0 kin 0 last;", 6, 20);
        refuses("one;rule 1 0 kin 1 last;", 6, 24);
        refuses("rule 1 0 any 0 first;rule 1 0 any 0 last;", 7, 41);
        refuses("rule 1 0 kin 0 first;rule 1 0 any 0 last; ", 6, 42);
        refuses("rule 1 2 any 0 first;rule 1 3 any 0 last;rule1 2born1last;", 7, 58);
        takes("one;rule 1 0 bare 5 last;rule 2 0 born 6 last;rule 3 0 any 9 last;", 4);
    }

    private static void whatStays() {
        ThirdSon x = Check.told("one;one 0;fact 1 2;odds 2 7;gone 0;rule 4 2 any 0 last;");
        x.see(2, 1);
        x.keep(1);
        x.does(15);
        Check.due("a text with a fault", Check.tell(x, "one;one;one;odds 2 1;?"), -31);
        Check.due("PEOPLE stay", x.rule(0), 2);
        Check.due("RULES stay", x.rule(1), 1);
        Check.due("GONE stay", x.rule(2), 1);
        Check.due("ODDS stay", x.odd(2), 7);
        Check.due("FACTS stay", x.one(1, 1), 4);
        Check.due("TRIES stay", x.one(1, 2), 1);
        Check.due("SEEN stay", x.count(0), 1);
        Check.due("IMAGES stay", x.count(1), 1);
        Check.due("fault() of the latest text", x.fault(), 1);
        Check.due("fault() asked again", x.fault(), 1);
        Check.due("an empty text", x.text(), 0);
        Check.due("fault() of the empty text", x.fault(), 0);
        Check.due("PEOPLE of the empty text", x.rule(0), 0);
        Check.due("RULES of the empty text", x.rule(1), 0);
    }

    /** A text more, and one more, for what was told long ago. */
    private static void whatIsAsAtFirst() {
        String dear = "one;one 0;one 1;one;fact 0 1;fact 3 1;gone 0;gone 3;odds 0 1;odds 4 9;"
            + "rule 1 0 kin 0 last;";
        ThirdSon x = Check.told(dear);
        x.tries(0, 1);
        x.tries(3, 3);
        Check.due("with a fault", Check.tell(x, dear + "?"), -10 - dear.length());
        Check.due("no line", x.text(), 0);
        String people = "one;one;one;one;rule 1 0 kin 0 last;";
        Check.due("four people", Check.tell(x, people), 5);
        for (int p = 0; p < 4; p++) {
            int[] one = {-4, 0, 0, 0, p + 1, 0};
            for (int what = 0; what < 6; what++) {
                Check.due("long ago: one(" + p + ", " + what + ")", x.one(p, what), one[what]);
            }
        }
        for (int f = 0; f < 5; f++) {
            Check.due("long ago: odd(" + f + ")", x.odd(f), 5);
        }
        Check.due("long ago: who is kin of 0", x.law(0, 5), 0);
        Check.due("long ago: RULES", x.rule(1), 1);
        lately();
    }

    private static void lately() {
        ThirdSon x = Check.told("one;one 0;fact 1 2;odds 2 7;gone 0;rule 4 2 any 0 last;");
        x.tries(1, 2);
        x.see(2, 1);
        x.keep(0);
        x.weigh(1, 3);
        x.sheet(0, 2, 3);
        x.read(0, 1, 0, 1);
        Check.due("a text more", Check.tell(x, "one;one;"), 2);
        for (int p = 0; p < 2; p++) {
            int[] one = {-4, 0, 0, 0, p + 1, 0};
            for (int what = 0; what < 6; what++) {
                Check.due("a text more: one(" + p + ", " + what + ")", x.one(p, what), one[what]);
            }
        }
        Check.due("a text more: ODDS of 1", x.odd(1), 5);
        Check.due("a text more: ODDS of 2", x.odd(2), 5);
        Check.due("a text more: RULES", x.rule(1), 0);
        Check.due("a text more: GONE", x.rule(2), 0);
        Check.due("a text more: SEEN", x.count(0), 0);
        Check.due("a text more: IMAGES", x.count(1), 0);
        Check.due("a text more: back(0)", x.back(0), -2);
        Check.due("a text more: SHEETS stay", x.count(3), 3);
        Check.due("a text more: torn() stays", x.torn(), 3);
    }
}
