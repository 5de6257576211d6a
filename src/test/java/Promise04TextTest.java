import java.util.List;

/** Promise 4: THE TAPE tells all: how many lines; -10 less the place of its FAULT. */
public final class Promise04TextTest {
    private static final String[] CLAIMS = {"any", "born", "fact", "tried", "kin", "bare"};
    private static final int[] LEAST = {0, 1, 0, 0, 0, 0};
    private static final int[] MOST = {9, 6, 4, 3, 5, 5};
    private static final String SIX = "one;one;one;one;one;one;";
    private static final String FIVE = "rule1 0any0first;rule2 0any0first;rule3 0any0first;"
        + "rule4 0any0first;rule5 0any0first;";

    private Promise04TextTest() {
    }

    public static void main(String[] args) {
        howManyLines();
        blanks();
        tokensAsLongAsMayBe();
        fault1();
        fault2WhereALineBegins();
        fault2InALine();
        fault2OfOneLetter();
        fault2TheEnd();
        fault3();
        fault3Parents();
        fault3OfEachClaim();
        fault4();
        fault5();
        fault6();
        fault7();
        theFirstMet();
        theTapeIsEmptyThen();
        thatWhichWasToldStays();
        inPlaceOfWhatThereWas();
        whatEachLineTells();
        Check.close("Promise04TextTest");
    }

    private static void takes(String text, int lines) {
        ThirdSon x = new ThirdSon();
        Check.due("text of \"" + text + "\"", Check.tell(x, text), lines);
        Check.due("FAULT of \"" + text + "\"", x.fault(), 0);
    }

    private static void refuses(String text, int kind, int place) {
        ThirdSon x = new ThirdSon();
        Check.due("text of \"" + text + "\"", Check.tell(x, text), -10 - place);
        Check.due("FAULT of \"" + text + "\"", x.fault(), kind);
    }

    private static void howManyLines() {
        takes("", 0);
        takes("one;", 1);
        takes("one;one;odds 0 1;", 3);
        takes(SIX + FIVE, 11);
        takes(SIX + "odds0 0;odds1 0;odds2 0;odds3 0;odds4 0;fact0 0;fact0 1;fact0 2;fact0 3;fact0 4;"
            + "fact1 0;fact1 1;gone0;gone1;gone2;gone3;", 22);
    }

    private static void blanks() {
        takes("   ", 0);
        takes("one;one0;fact0 0;gone0;odds0 0;rule1 0any0first;", 6);
        takes("  one  ;  one  0  ;  fact  0  0  ;  gone  0  ;  odds  0  0  ;", 5);
        takes("  rule  1  0  any  0  first  ;  ", 1);
        takes("one                                        ;", 1);
        takes(" ".repeat(160), 0);
        takes(" ".repeat(156) + "one;", 1);
        takes("one;" + " ".repeat(156), 1);
        // between two NUMBERS one is needed
        refuses("fact00;", 2, 6);
        refuses("one;odds010;", 1, 8);
        refuses("on e;", 2, 0);
        refuses("one;gone 0 0;", 2, 11);
        // no other byte is a blank
        for (int c : new int[] {0, 9, 10, 13, 31, 33, 127}) {
            refuses("one" + (char) c + ";", 1, 3);
            refuses((char) c + "one;", 1, 0);
            refuses("one;" + (char) c, 1, 4);
        }
    }

    private static void tokensAsLongAsMayBe() {
        refuses("oneone;", 2, 0);
        refuses("one;ones;", 2, 4);
        refuses("rule1 0anyfirst;", 2, 7);
        refuses("rule1 0any0firstlast;", 2, 11);
        refuses("rule1 0kina0last;", 2, 7);
        refuses("rule12 0any0first;", 3, 4);
        refuses("fact0 12;", 3, 6);
        takes("fact00 01;one;", 2);
        takes("odds 00 10;odds 01 09;", 2);
        takes("rule09 03any09first;", 1);
    }

    private static void fault1() {
        // the bytes next to the letters, the figures, the ; and the blank
        for (char c : new char[] {'`', '{', '/', ':', '<', '!', 'A', 'Z', '-', '+', '.', ','}) {
            refuses("one;" + c, 1, 4);
            refuses("one" + c + ";", 1, 3);
            refuses("gone" + c + "0;", 1, 4);
        }
        refuses("o{e;", 2, 0);
        refuses("?", 1, 0);
        refuses("one;?", 1, 4);
        refuses("one;   ?", 1, 7);
        refuses(" ".repeat(159) + "?", 1, 159);
        refuses("000;", 1, 0);
        refuses("one 000;", 1, 4);
        refuses("one;one  001;", 1, 9);
        refuses("fact 0 0000000000000000000000;", 1, 7);
        refuses("odds 0 4294967296;", 1, 7);
        refuses("rule 1 0 any 010 first;", 1, 13);
        refuses("one 123", 1, 4);
    }

    private static void fault2WhereALineBegins() {
        String[] bad = {";", "0;", "12;", "on;", "ones;", "any 0;", "first;", "a;", "z;", "facts;",
            "rules;", "odd 0 0;", "go;", "fac", "o"};
        for (String b : bad) {
            refuses(b, 2, 0);
            refuses("one; " + b, 2, 5);
        }
    }

    private static void fault2InALine() {
        refuses("one one;", 2, 4);
        refuses("one;one 0 0;", 2, 10);
        refuses("one;one 0 any;", 2, 10);
        refuses("fact;", 2, 4);
        refuses("fact a 0;", 2, 5);
        refuses("fact 0;", 2, 6);
        refuses("fact 0 a;", 2, 7);
        refuses("fact 0 0 0;", 2, 9);
        refuses("fact 0 0 one;", 2, 9);
        refuses("gone;", 2, 4);
        refuses("gone one;", 2, 5);
        refuses("gone 0 gone;", 2, 7);
        refuses("odds;", 2, 4);
        refuses("odds 0;", 2, 6);
        refuses("odds 0 a;", 2, 7);
        refuses("odds 0 0 0;", 2, 9);
        refuses("rule;", 2, 4);
        refuses("rule 1;", 2, 6);
        refuses("rule 1 any;", 2, 7);
        refuses("rule 1 0;", 2, 8);
        refuses("rule 1 0 0;", 2, 9);
        refuses("rule 1 0 first 0 first;", 2, 9);
        refuses("rule 1 0 one 0 first;", 2, 9);
        refuses("rule 1 0 gone 0 first;", 2, 9);
        refuses("rule 1 0 an 0 first;", 2, 9);
        refuses("rule 1 0 anyx 0 first;", 2, 9);
        refuses("rule 1 0 any;", 2, 12);
        refuses("rule 1 0 any first;", 2, 13);
        refuses("rule 1 0 any 0;", 2, 14);
        refuses("rule 1 0 any 0 0;", 2, 15);
        refuses("rule 1 0 any 0 any;", 2, 15);
        refuses("rule 1 0 any 0 firs;", 2, 15);
        refuses("rule 1 0 any 0 second;", 2, 15);
        refuses("rule 1 0 any 0 first 0;", 2, 21);
        refuses("rule 1 0 any 0 first last;", 2, 21);
    }

    /** A NAME of which one letter is another one, or is not there, or is there twice. */
    private static void fault2OfOneLetter() {
        String[] lines = {"one 0;", "fact 0 0;", "gone 0;", "odds 0 0;", "rule 1 0 any 0 first;",
            "rule 1 0 born 1 third;", "rule 1 0 fact 1 last;", "rule 1 0 tried 1 first;",
            "rule 1 0 kin 0 third;", "rule 1 0 bare 1 last;"};
        for (String line : lines) {
            int name = 0;
            for (int i = 0; i < line.length(); i++) {
                char c = line.charAt(i);
                if (c < 'a' || c > 'z') {
                    name = i + 1;
                    continue;
                }
                String ahead = "one;" + line.substring(0, i);
                refuses(ahead + (char) (c == 'z' ? 'a' : c + 1) + line.substring(i + 1), 2, 4 + name);
                // "gone" without its first letter is a NAME again
                if (!line.substring(name, i + 1).equals("g")) {
                    refuses(ahead + line.substring(i + 1), 2, 4 + name);
                }
                refuses(ahead + c + line.substring(i), 2, 4 + name);
            }
            takes("one;" + line, 2);
        }
    }

    /** A line that ends ahead of its ; : the place is the length, blanks too. */
    private static void fault2TheEnd() {
        String[] lines = {"one;one 0", "fact 0 0", "gone 0", "odds 0 0", "rule 1 0 any 0 first"};
        for (String line : lines) {
            for (int end = line.lastIndexOf(';') + 2; end <= line.length(); end++) {
                String part = line.substring(0, end);
                if (!part.endsWith(" ") && (end == line.length() || line.charAt(end) == ' ')) {
                    refuses(part, 2, end);
                    refuses(part + "   ", 2, end + 3);
                }
            }
        }
        refuses(" ".repeat(157) + "one", 2, 160);
    }

    private static void bounds(String ahead, String behind, int low, int high) {
        int place = ahead.length();
        takes(ahead + low + behind, 1 + 6);
        takes(ahead + high + behind, 1 + 6);
        refuses(ahead + (high + 1) + behind, 3, place);
        refuses(ahead + "99" + behind, 3, place);
        if (low > 0) {
            refuses(ahead + (low - 1) + behind, 3, place);
        }
    }

    private static void fault3() {
        bounds(SIX + "fact ", " 0;", 0, 5);
        bounds(SIX + "fact 0 ", ";", 0, 4);
        bounds(SIX + "gone ", ";", 0, 5);
        bounds(SIX + "odds ", " 0;", 0, 4);
        bounds(SIX + "odds 0 ", ";", 0, 10);
        bounds(SIX + "rule ", " 0 any 0 first;", 1, 9);
        bounds(SIX + "rule 1 ", " any 0 first;", 0, 3);
    }

    private static void fault3Parents() {
        StringBuilder ahead = new StringBuilder();
        for (int p = 0; p < 6; p++) {
            int place = p * 4 + 4;
            refuses(ahead + "one " + p + ";", 3, place);
            refuses(ahead + "one 6;", 3, place);
            refuses(ahead + "one 10;", 3, place);
            for (int parent = 0; parent < p; parent++) {
                takes(ahead + "one " + parent + ";", p + 1);
            }
            ahead.append("one;");
        }
        takes("one;one 0;one 1;one 2;one 3;one 4;", 6);
    }

    private static void fault3OfEachClaim() {
        for (int c = 0; c < 6; c++) {
            bounds(SIX + "rule 1 0 " + CLAIMS[c] + " ", " last;", LEAST[c], MOST[c]);
        }
    }

    private static void fault4() {
        refuses("fact 0 1;fact 0 1;one;", 4, 16);
        refuses("fact 5 4;fact 5 4;", 4, 16);
        refuses("fact 0 0;fact 0 1;fact 1 0;  fact  0  00 ;", 4, 38);
        takes("one;one;fact 0 1;fact 1 1;fact 0 2;fact 1 2;", 6);
        refuses("gone 0;gone 0;one;", 4, 12);
        refuses("gone 5;gone 0;gone 05;", 4, 19);
        takes("one;one;gone 1;gone 0;", 4);
        refuses("odds 0 1;odds 0 1;", 4, 14);
        refuses("odds 4 5;odds 4 5;", 4, 14);
        refuses("odds 1 5;odds 0 5;odds 1 0;", 4, 23);
        takes("odds 0 5;odds 1 5;odds 2 5;odds 3 5;odds 4 5;", 5);
        // what is told in one text is not told already in the next one
        ThirdSon x = Check.told("one;fact 0 1;gone 0;odds 0 1;");
        Check.due("the same text again", Check.tell(x, "one;fact 0 1;gone 0;odds 0 1;"), 4);
        Check.tell(x, "one;fact 0 2;gone 0;odds 2 1;?");
        Check.due("behind a FAULT", Check.tell(x, "one;fact 0 2;gone 0;odds 2 1;"), 4);
    }

    private static void fault5() {
        takes(SIX, 6);
        refuses(SIX + "one;", 5, 24);
        refuses(SIX + "  one 0;", 5, 26);
        refuses("odds 0 1;" + SIX + "one", 5, 33);
        takes(FIVE, 5);
        int length = FIVE.length();
        refuses(FIVE + "rule6 0any0first;", 5, length);
        refuses(FIVE + "  rule", 5, length + 2);
        takes(FIVE + "one;odds 0 1;", 7);
        // its NAME: what is behind it has not been read
        refuses(SIX + "one?", 5, 24);
        refuses(SIX + "one 6;", 5, 24);
        refuses(FIVE + "rule?", 5, length);
        refuses(FIVE + "rule 0", 5, length);
        refuses(SIX + "ones", 2, 24);
    }

    private static void fault6() {
        refuses("fact 0 0;", 6, 9);
        refuses("gone 0;", 6, 7);
        refuses("rule 1 0 kin 0 last;", 6, 20);
        refuses("one;fact 1 0;", 6, 13);
        refuses("one;gone 1;", 6, 11);
        refuses("one;rule 1 0 kin 1 last;", 6, 24);
        refuses("fact 5 0;one;one;one;one;one;", 6, 29);
        refuses("gone 5;one;one;one;one;one;   ", 6, 30);
        refuses("rule 1 0 kin 5 last;one;one;one;one;one;", 6, 40);
        // one that there is behind one that there is not
        refuses("fact 1 0;fact 0 0;one;", 6, 22);
        refuses("gone 1;gone 0;one;", 6, 18);
        refuses("rule 1 0 kin 1 last;rule 2 0 kin 0 last;one;", 6, 44);
        // behind all: it may be told behind it
        takes("fact 5 0;gone 5;rule 1 0 kin 5 last;" + SIX, 9);
        takes("fact 0 0;gone 0;rule 1 0 kin 0 last;one;", 4);
        // other claims name no ONE
        takes("rule 1 0 bare 5 last;rule 2 0 born 6 last;rule 3 0 any 9 last;", 3);
        takes("rule 1 0 fact 4 last;rule 2 0 tried 3 last;", 2);
    }

    private static void fault7() {
        refuses("rule 1 0 any 0 first;rule 1 0 any 0 last;", 7, 41);
        refuses("rule 9 3 any 0 first;rule 9 3 kin 0 last;one;  ", 7, 47);
        refuses("rule 1 0 any 0 first;rule 2 0 any 0 last;rule 1 0 born 1 last;", 7, 62);
        refuses("rule 2 0 any 0 first;rule 1 0 any 0 last;rule 1 0 born 1 last;", 7, 62);
        refuses("rule1 0any0first;rule2 0any0first;rule3 0any0first;rule4 0any0first;"
            + "rule1 0any0first;", 7, 85);
        takes("rule 1 0 any 0 first;rule 1 1 any 0 last;", 2);
        takes("rule 1 0 any 0 first;rule 2 0 any 0 first;", 2);
        // 6 is ahead of 7
        refuses("rule 1 0 any 0 first;rule 1 0 kin 0 last;", 6, 41);
        refuses("rule 1 0 any 0 first;rule 1 0 any 0 last;gone 0;", 6, 48);
    }

    /** A TOKEN is read when the one before has been taken. */
    private static void theFirstMet() {
        refuses("onx ?", 2, 0);
        refuses("one 0?", 3, 4);
        refuses("fact 6?", 3, 5);
        refuses("fact 0 5?", 3, 7);
        refuses("fact 0 0;fact 0 0?", 4, 16);
        refuses("fact 0 0;fact 0 5?", 3, 16);
        refuses("gone 6?", 3, 5);
        refuses("gone 0;gone 0?", 4, 12);
        refuses("odds 0 1;odds 0?", 4, 14);
        refuses("odds 0 1;odds 0;", 4, 14);
        refuses("odds 0 1;odds 0 11;", 4, 14);
        refuses("odds 5?", 3, 5);
        refuses("odds 0 11?", 3, 7);
        refuses("rule 0?", 3, 5);
        refuses("rule 1 4?", 3, 7);
        refuses("rule 1 0 anx?", 2, 9);
        refuses("rule 1 0 born 0?", 3, 14);
        refuses("rule 1 0 any 0 firsx?", 2, 15);
        refuses("one ? ;;", 1, 4);
        refuses("fact 0 ?", 1, 7);
        // ahead of what is looked at behind all
        refuses("fact 0 0;?", 1, 9);
        refuses("gone 0;gone 0;", 4, 12);
        refuses("rule 1 0 any 0 first;rule 1 0 any 0 last;one", 2, 44);
    }

    private static void theTapeIsEmptyThen() {
        String[] texts = {"", "one;", "one;?", "fact 0 0;", "one"};
        for (String text : texts) {
            ThirdSon x = new ThirdSon();
            Check.tell(x, text);
            Check.due("bytes behind the text \"" + text + "\"", x.count(2), 0);
            Check.due("a byte behind it", x.feed(';'), 1);
            Check.due("its FAULT is at 0", x.text(), -10);
        }
    }

    /** By each kind of FAULT, when much of another duchy has been told ahead of it. */
    private static void thatWhichWasToldStays() {
        String ahead = "one;one0;fact0 4;gone0;odds2 1;rule7 3kin0last;";
        String[] behind = {"?", "one", "odds 5 0;", "gone 0;", "one;one;one;one;one;", "fact 4 4;",
            "rule7 3any0last;"};
        for (int kind = 1; kind <= 7; kind++) {
            ThirdSon x = Twins.duchy();
            x.end(0);
            Check.due("a text of FAULT " + kind, Check.tell(x, ahead + behind[kind - 1]) < -9 ? 1 : 0, 1);
            Check.due("FAULT", x.fault(), kind);
            ThirdSon other = Twins.duchy();
            other.end(0);
            List<String> found = Twins.look(x);
            List<String> want = Twins.look(other);
            // the first one is what fault() tells
            Twins.same("FAULT " + kind, found.subList(1, found.size()), want.subList(1, want.size()));
        }
    }

    private static void inPlaceOfWhatThereWas() {
        ThirdSon x = Twins.duchy();
        x.end(0);
        Check.due("another duchy", Check.tell(x, "one;one;one;one 0;rule 2 3 any 0 third;"), 5);
        for (int p = 0; p < 4; p++) {
            int[] due = {p == 3 ? 0 : -4, 0, 0, 0};
            for (int what = 0; what < 4; what++) {
                Check.due("as at first: one(" + p + ", " + what + ")", x.one(p, what), due[what]);
            }
        }
        for (int f = 0; f < 5; f++) {
            Check.due("as at first: ODDS of " + f, x.odd(f), 5);
        }
        int[] law = {2, 3, 0, 0, 1, 15, 2};
        for (int what = 0; what < 7; what++) {
            Check.due("law(0, " + what + ")", x.law(0, what), law[what]);
        }
        Check.due("RULES", x.rule(1), 1);
        Check.due("no RULE 1", x.law(1, 0), -1);
        Check.due("nobody is GONE", x.rule(2), 0);
        Check.due("nobody has TRIED", x.count(6), 0);
        Check.due("nothing is SEEN", x.count(0), 0);
        Check.due("IMAGES are gone", x.count(1), 0);
        Check.due("IMAGE 0 is gone", x.back(0), -2);
        Check.due("IMAGE 1 is gone", x.back(1), -2);
        Check.due("what torn() tells stays", x.torn(), 3);
        Check.due("SHEET 0 stays", x.count(3), 3);
        Check.due("its CELLS stay", x.read(0, 1, 0, 3), 3);
        Check.due("FACT 2 of 0 by a CELL", x.one(0, 1), 4);
        Check.due("FACTS 0, 4 of 3 by CELLS", x.one(3, 1), 17);
        Check.due("SHEET 1 stays", x.lay(1, 1, 0), 1);
        Check.due("SHEET 1 has 2 CELLS", x.lay(1, 2, 0), -12);
        Check.due("SHEET 2 stays", x.lay(2, 0, 0), -12);
        Check.due("SHEET 3 stays nothing", x.lay(3, 0, 0), -11);
        anEmptyText();
        twoTextsLater();
    }

    private static void anEmptyText() {
        ThirdSon x = Twins.duchy();
        x.end(0);
        Check.due("an empty text", x.text(), 0);
        Check.due("nobody", x.rule(0), 0);
        Check.due("no RULES", x.rule(1), 0);
        Check.due("nobody GONE", x.rule(2), 0);
        Check.due("ODDS of 0", x.odd(0), 5);
        Check.due("no IMAGES", x.count(1), 0);
        Check.due("nothing SEEN", x.count(0), 0);
        Check.due("nothing owned", x.count(4), 0);
    }

    /** What was told, changed and then left is not there two texts later either. */
    private static void twoTextsLater() {
        ThirdSon x = Twins.duchy();
        x.end(0);
        x.text();
        Check.tell(x, "one;one;one;one;rule 1 0 any 0 last;rule 2 0 kin 0 last;");
        for (int p = 0; p < 4; p++) {
            Check.due("two texts later: PARENT", x.one(p, 0), -4);
            Check.due("two texts later: FACTS", x.one(p, 1), 0);
            Check.due("two texts later: TRIES", x.one(p, 2), 0);
        }
        Check.due("two texts later: kin of 0", x.law(1, 5), 0);
        Check.due("two texts later: ODDS of 0", x.odd(0), 5);
        Check.due("two texts later: ODDS of 4", x.odd(4), 5);
    }

    private static void whatEachLineTells() {
        ThirdSon x = Check.told("one;one 0;one;fact 1 4;fact 1 0;gone 2;odds 0 0;odds 4 10;");
        int[][] one = {{-4, 0, 0, 0}, {0, 17, 0, 0}, {-4, 0, 0, 1}};
        for (int p = 0; p < 3; p++) {
            for (int what = 0; what < 4; what++) {
                Check.due("one(" + p + ", " + what + ")", x.one(p, what), one[p][what]);
            }
        }
        int[] odds = {0, 5, 5, 5, 10};
        for (int f = 0; f < 5; f++) {
            Check.due("odd(" + f + ")", x.odd(f), odds[f]);
        }
        String[] picks = {"first", "third", "last"};
        for (int c = 0; c < 6; c++) {
            ThirdSon y = Check.told("one;one;one;one;one;one;rule " + (c + 4) + " " + c % 4 + " "
                + CLAIMS[c] + " " + MOST[c] + " " + picks[c % 3] + ";");
            int[] law = {c + 4, c % 4, c, MOST[c], c % 3};
            for (int what = 0; what < 5; what++) {
                Check.due("law(0, " + what + ") of " + CLAIMS[c], y.law(0, what), law[what]);
            }
        }
    }
}
