/** The bounds of the text: section 1 of the document with promises 1 to 4, a test for each sentence. */
public final class TextBoundsTest {
    private static final Due due = new Due();
    private static final String SEVEN = "k1 90;k1 90;k1 90;k1 90;k1 90;k1 90;k1 90;";
    private static final String EIGHT = SEVEN + "k1 90;";

    public static void main(String[] args) {
        letters();
        lettersAtMost();
        values();
        rates();
        clocksAtMost();
        liarsToldAhead();
        struck();
        steps();
        figures();
        figuresWithoutEnd();
        words();
        blanks();
        blanksInEveryGap();
        onlyThirtyTwoIsBlank();
        numbersSideBySide();
        firstFault();
        faultAtTheEnd();
        leastFaultOfALetter();
        faultOne();
        faultTwo();
        faultThree();
        faultFour();
        emptyText();
        textIsEmptyThen();
        faultIsOfTheLatest();
        faultLeavesAll();
        textBeginsAnew();
        newObject();
        textBehindAsking();
        everyLetterAtEveryPlace();
        due.end();
    }

    private static Run run(String sentence) {
        return new Run(due, sentence);
    }

    private static Run good(String sentence, String text, int clocks) {
        return run(sentence + " '" + text + "'").text(text, clocks).go("fault = NONE", "told 0 = " + clocks, "told 3 = 0");
    }

    private static void bad(String sentence, String text, int kind, int place) {
        run(sentence + " '" + text + "'").text(text, -10 - kind).go("fault = " + place, "told 0 = 0", "told 3 = 0");
    }

    private static String blanks(int n) {
        return " ".repeat(n);
    }

    private static void letters() {
        run("a letter (0 .. 255)").go("feed -1 = OUTSIDE", "feed 0 = 1", "feed 255 = 2", "feed 256 = OUTSIDE",
            "feed LEAST = OUTSIDE", "feed MOST = OUTSIDE", "told 3 = 2");
        // What is outside is no letter of the text.
        run("a letter (0 .. 255)").feed("k1 90").go("feed -1 = OUTSIDE", "feed 256 = OUTSIDE").text(";", 1);
        run("a letter keeps all its bits").feed("k1 90").go("feed " + (59 + 128) + " = 6", "clocks = -11", "fault = 5");
    }

    private static void lettersAtMost() {
        run("200 letters at most").feed(blanks(198)).go("feed 32 = 199", "feed 32 = 200", "told 3 = 200",
            "feed 32 = FULL", "told 3 = 200", "clocks = 0", "feed 32 = 1");
        run("the 200th letter is read").feed("k1 90" + blanks(194) + ";").go("told 3 = 200", "clocks = 1", "fault = NONE");
        run("a 201st is not read").feed("k1 90" + blanks(195)).go("feed 59 = FULL", "clocks = -11", "fault = 200");
        run("the 200th letter has a fault").feed(blanks(199)).go("feed 120 = 200", "clocks = -11", "fault = 199");
        run("of OUTSIDE and FULL the first").feed(blanks(200)).go("feed -1 = OUTSIDE", "feed 256 = OUTSIDE", "feed 0 = FULL",
            "feed 255 = FULL");
    }

    private static void values() {
        good("VALUE V 0 .. 9999", "k0 100;", 1).go("clock 0 0 = 0");
        good("VALUE V 0 .. 9999", "k1 100;", 1).go("clock 0 0 = 1");
        good("VALUE V 0 .. 9999", "k9999 100;", 1).go("clock 0 0 = 9999");
        bad("VALUE V 0 .. 9999", "k10000 100;", 2, 1);
        bad("VALUE V 0 .. 9999", "k-1 100;", 1, 1);
    }

    private static void rates() {
        bad("RATE R 90 .. 110", "k1 89;", 2, 3);
        good("RATE R 90 .. 110", "k1 90;", 1).go("clock 0 1 = 90");
        good("RATE R 90 .. 110", "k1 91;", 1).go("clock 0 1 = 91");
        good("RATE R 90 .. 110", "k1 110;", 1).go("clock 0 1 = 110");
        bad("RATE R 90 .. 110", "k1 111;", 2, 3);
        bad("RATE R 90 .. 110", "k1 0;", 2, 3);
        bad("RATE R 90 .. 110", "k1 9999;", 2, 3);
    }

    private static void clocksAtMost() {
        good("8 at most", SEVEN, 7);
        good("8 at most", EIGHT, 8).go("clock 7 1 = 90", "clock 8 1 = UNKNOWN");
        bad("8 at most", EIGHT + "k1 90;", 3, 48);
        good("8 at most, and other clauses", EIGHT + "f1;s1;l7;", 8);
    }

    private static void liarsToldAhead() {
        good("CLOCK C, told ahead", "k1 90;l0;", 1).go("told 4 = 1");
        bad("CLOCK C, told ahead", "k1 90;l1;", 2, 7);
        bad("CLOCK C, told ahead", "l0;", 2, 1);
        bad("CLOCK C, told ahead", "l0;k1 90;", 2, 1);
        bad("CLOCK C, told ahead", "k1 90;l1;k1 90;", 2, 7);
        good("CLOCK C, told ahead", "k1 90;k1 90;l1;", 2).go("told 4 = 2");
        good("CLOCK C, told ahead", EIGHT + "l7;l0;", 8).go("told 4 = 129");
        bad("CLOCK C, told ahead", EIGHT + "l8;", 2, 49);
        // Shifts by 32 and more wrap around: clock 32 is not clock 0.
        bad("CLOCK C, told ahead", "k1 90;l32;", 2, 7);
        bad("CLOCK C, told ahead", "k1 90;l9999;", 2, 7);
    }

    private static void struck() {
        good("F 0 .. 3; 0 at first", "k1 90;", 1).go("told 1 = 0");
        for (int f = 0; f <= 3; f++) {
            good("F 0 .. 3", "f" + f + ";", 0).go("told 1 = " + f);
        }
        bad("F 0 .. 3", "f4;", 2, 1);
        bad("F 0 .. 3", "f9999;", 2, 1);
    }

    private static void steps() {
        good("S 0 .. 80; 10 at first", "k1 90;", 1).go("told 2 = 10");
        good("S 0 .. 80", "s0;", 0).go("told 2 = 0");
        good("S 0 .. 80", "s1;", 0).go("told 2 = 1");
        good("S 0 .. 80", "s80;", 0).go("told 2 = 80");
        bad("S 0 .. 80", "s81;", 2, 1);
        bad("S 0 .. 80", "s9999;", 2, 1);
    }

    private static void figures() {
        String sentence = "NUMBERS have one to four figures";
        good(sentence, "k7 90;", 1).go("clock 0 0 = 7");
        good(sentence, "k0007 0090;", 1).go("clock 0 0 = 7", "clock 0 1 = 90");
        good(sentence, "k1 90;l0000;", 1).go("told 4 = 1");
        good(sentence, "f0003;", 0).go("told 1 = 3");
        good(sentence, "s0080;", 0).go("told 2 = 80");
        good(sentence, "k1234 90;", 1).go("clock 0 0 = 1234");
        bad(sentence, "k00007 90;", 2, 1);
        bad(sentence, "k7 00090;", 2, 3);
        bad(sentence, "k1 90;l00000;", 2, 7);
        bad(sentence, "f00003;", 2, 1);
        bad(sentence, "s00080;", 2, 1);
        bad(sentence, "k 90;", 1, 4);
        bad(sentence, "k;", 1, 1);
        bad(sentence, "k7;", 1, 2);
        bad(sentence, "k1 90;l;", 1, 7);
        bad(sentence, "f;", 1, 1);
        bad(sentence, "s;", 1, 1);
    }

    private static void figuresWithoutEnd() {
        String sentence = "five figures or more";
        bad(sentence, "k" + "0".repeat(199), 2, 1);
        bad(sentence, "f" + "0".repeat(198) + ";", 2, 1);
        // These come to 1 or 90 if a number wraps around.
        bad(sentence, "f4294967297;", 2, 1);
        bad(sentence, "k4294967297 90;", 2, 1);
        bad(sentence, "k1 4294967386;", 2, 3);
        bad(sentence, "k1 18446744073709551706;", 2, 3);
        bad(sentence, "k123456789 90;", 2, 1);
    }

    private static void words() {
        String sentence = "a word is one letter";
        bad(sentence, "kk1 90;", 1, 1);
        bad(sentence, "ff1;", 1, 1);
        bad(sentence, "clock 1 90;", 1, 0);
        bad(sentence, "k1 90;l l0;", 1, 8);
        for (int letter = 0; letter <= 255; letter++) {
            boolean word = letter == 'k' || letter == 'l' || letter == 'f' || letter == 's';
            if (letter != ' ') {
                bad(sentence, "" + (char) letter, 1, word ? 1 : 0);
            }
        }
    }

    private static void blanks() {
        String sentence = "blanks (32) may stand anywhere but within NUMBERS";
        good(sentence, "   k   12   100   ;   l   0   ;   f   1   ;   s   20   ;   ", 1)
            .go("clock 0 0 = 12", "clock 0 1 = 100", "told 4 = 1", "told 1 = 1", "told 2 = 20");
        bad(sentence, "k1 2 100;", 2, 3);
        bad(sentence, "k12 1 00;", 2, 4);
        bad(sentence, "k12 10 0;", 2, 4);
        bad(sentence, "k12 100 0;", 1, 8);
        bad(sentence, "s2 0;", 1, 3);
        bad(sentence, "f0 1;", 1, 3);
        bad(sentence, "k1 90;l0 0;", 1, 9);
    }

    private static void blanksInEveryGap() {
        String text = "k12 100;l0;f1;s20;";
        for (int at = 0; at <= text.length(); at++) {
            boolean withinNumber = isFigure(text, at - 1) && isFigure(text, at);
            for (int n = 1; n <= 3 && !withinNumber; n++) {
                good("blanks anywhere", text.substring(0, at) + blanks(n) + text.substring(at), 1)
                    .go("clock 0 0 = 12", "clock 0 1 = 100", "told 4 = 1", "told 1 = 1", "told 2 = 20");
            }
        }
    }

    private static boolean isFigure(String text, int at) {
        return at >= 0 && at < text.length() && Character.isDigit(text.charAt(at));
    }

    private static void onlyThirtyTwoIsBlank() {
        for (int letter : new int[] {0, 9, 10, 11, 12, 13, 31, 33, 95, 160, 255}) {
            bad("blanks (32)", "k1 90;" + (char) letter, 1, 6);
            bad("blanks (32)", "k" + (char) letter + "1 90;", 1, 1);
            bad("blanks (32)", "k1" + (char) letter + "90;", 1, 2);
        }
    }

    private static void numbersSideBySide() {
        String sentence = "two NUMBERS side by side need one";
        bad(sentence, "k1290;", 1, 5);
        good(sentence, "k12 90;", 1);
        good(sentence, "k12  90;", 1);
        bad(sentence, "k12;90;", 1, 3);
        bad(sentence, "k12,90;", 1, 3);
    }

    private static void firstFault() {
        String sentence = "at the first letter that has one";
        bad(sentence, "f4;x", 2, 1);
        bad(sentence, "f4x", 2, 1);
        bad(sentence, "f1;f1;x", 4, 3);
        bad(sentence, EIGHT + "kx", 3, 48);
        bad(sentence, "k1 90;l0;l0x", 4, 10);
        bad(sentence, "k1 90;l1x", 2, 7);
        bad(sentence, "k10000 89;", 2, 1);
        bad(sentence, "k1 89;f9;", 2, 3);
        bad(sentence, "s81;f4;", 2, 1);
        bad(sentence, "s1;s81;", 4, 3);
        bad(sentence, "x f4;", 1, 0);
        bad(sentence, "k1 90;l0;l0;f4;", 4, 10);
    }

    private static void faultAtTheEnd() {
        String sentence = "the end at the text's length";
        String[] cut = {"k", "k1", "k1 ", "k1 90", "k1 90 ", "k   ", "k1 90;l", "k1 90;l ", "k1 90;l0", "k1 90;l0  ", "f", "f1",
            "f 1 ", "s", "s1", "s  1  "};
        for (String text : cut) {
            bad(sentence, text, 1, text.length());
        }
        bad(sentence, "k1 90" + blanks(195), 1, 200);
        bad("a wrong number is ahead of the end", "k1 8", 2, 3);
        bad("a wrong number is ahead of the end", "k12345", 2, 1);
        bad("a wrong number is ahead of the end", "f4", 2, 1);
        good("an end where it may be", "k1 90;", 1);
        good("an end where it may be", "k1 90; ", 1);
    }

    private static void leastFaultOfALetter() {
        String sentence = "of these the least";
        bad(sentence + ": 1, not 4", "f1f1;", 1, 2);
        bad(sentence + ": 1, not 4", "s1s1;", 1, 2);
        bad(sentence + ": 1, not 4", "f1;k1 f1;", 1, 6);
        bad(sentence + ": 1, not 3", SEVEN + "k1 90k1 90;", 1, 47);
        bad(sentence + ": 1, not 2", "f1 12345;", 1, 3);
        bad(sentence + ": 1, not 2", "12345", 1, 0);
        bad(sentence + ": 2, not 4", "k1 90;l0;l00000;", 2, 10);
    }

    private static void faultOne() {
        String sentence = "1 it cannot stand there";
        bad(sentence, ";", 1, 0);
        bad(sentence, "0", 1, 0);
        bad(sentence, "k1 90;;", 1, 6);
        bad(sentence, "k1 90;0;", 1, 6);
        bad(sentence, "k1 90 90;", 1, 6);
        bad(sentence, "k1 90l0;", 1, 5);
        bad(sentence, "k1k90;", 1, 2);
        bad(sentence, "K1 90;", 1, 0);
        // The letters just beside the figures.
        bad(sentence, "k/ 90;", 1, 1);
        bad(sentence, "k: 90;", 1, 1);
        bad(sentence, "k1 9/;", 2, 3);
        bad(sentence, "k1 90/", 1, 5);
        bad(sentence, "k1 90:", 1, 5);
        bad(sentence, "k1 90<", 1, 5);
    }

    private static void faultTwo() {
        String sentence = "2 at its first";
        bad(sentence, "k  10000 90;", 2, 3);
        bad(sentence, "k1   111;", 2, 5);
        bad(sentence, "k1 90; l  1;", 2, 10);
        bad(sentence, "f  4;", 2, 3);
        bad(sentence, "s  81;", 2, 3);
        bad(sentence, "s  00001;", 2, 3);
    }

    private static void faultThree() {
        String sentence = "3 a ninth CLOCK (at the word)";
        bad(sentence, EIGHT + "k", 3, 48);
        bad(sentence, EIGHT + "  k1 90;", 3, 50);
        bad(sentence, EIGHT + "k1 89;", 3, 48);
        bad(sentence, EIGHT + "f1;k1 90;", 3, 51);
        bad(sentence, SEVEN + "f1;k1 90;l7;k1 90;", 3, 54);
    }

    private static void faultFour() {
        String liar = "4 a CLOCK that LIES already (at its first)";
        bad(liar, "k1 90;l0;l0;", 4, 10);
        bad(liar, "k1 90;l0; l  000;", 4, 13);
        bad(liar, "k1 90;k1 90;l1;l0;l1;", 4, 19);
        bad(liar, EIGHT + "l7;l7;", 4, 52);
        good("another LIES", "k1 90;k1 90;l1;l0;", 2).go("told 4 = 3");
        String second = "4 a second 'f', 's' (at the word)";
        bad(second, "f1;f1;", 4, 3);
        bad(second, "f0;f0;", 4, 3);
        bad(second, "f1;  f", 4, 5);
        bad(second, "s1;s1;", 4, 3);
        bad(second, "s0;s10;", 4, 3);
        bad(second, "s10;s10;", 4, 4);
        bad(second, "s1;f1;s1;", 4, 6);
        bad(second, "f1;s1;f1;", 4, 6);
        good("one of each", "s1;f1;", 0);
        run("one in each text").text("f1;s1;", 0).text("f2;s2;", 0).go("told 1 = 2", "told 2 = 2")
            .text("f1;f1;", -14).text("f3;", 0).go("told 1 = 3", "told 2 = 10");
        run("a liar in each text").text("k1 90;l0;", 1).text("k1 90;l0;", 1).go("told 4 = 1")
            .text("k1 90;l0;l0;", -14).text("k1 90;l0;", 1);
    }

    private static void emptyText() {
        String sentence = "An empty text (or one of blanks alone): no CLOCKS";
        good(sentence, "", 0).go("told 1 = 0", "told 2 = 10", "clock 0 0 = UNKNOWN");
        good(sentence, " ", 0);
        good(sentence, blanks(200), 0);
        run(sentence).text("k1 90;k2 90;l1;f1;s5;", 2).go("tick 1 = 0", "clocks = 0", "told 0 = 0", "told 1 = 0", "told 2 = 10",
            "told 4 = 0", "told 6 = 0", "told 7 = NONE", "told 12 = 0", "told 15 = 0", "fault = NONE", "clock 0 0 = UNKNOWN");
        good("no CLOCKS, but other clauses", "f2;s3;", 0).go("told 1 = 2", "told 2 = 3");
    }

    private static void textIsEmptyThen() {
        run("it is empty then").text("k1 90;", 1).go("told 3 = 0", "feed 107 = 1", "told 3 = 1");
        run("it is empty then, with a FAULT, too").text("k1 90", -11).go("told 3 = 0", "clocks = 0", "told 0 = 0");
        run("letters of a longer text ahead are gone").text("k1 90;k2 90;", 2).text("k1 9", -12).go("fault = 3")
            .text("k1 90", -11).go("fault = 5");
        run("200 letters again").feed(blanks(200)).go("clocks = 0").feed(blanks(199)).go("feed 32 = 200", "feed 32 = FULL");
    }

    private static void faultIsOfTheLatest() {
        run("The letter of the FAULT of the latest clocks(); NONE").go("fault = NONE", "clocks = 0", "fault = NONE")
            .feed("x").go("fault = NONE", "clocks = -11", "fault = 0", "fault = 0", "feed 32 = 1", "fault = 0", "tick 1 = 0",
                "fault = 0", "undo 1 = 0", "fault = 0")
            .text("f1;f2;", -14).go("fault = 4").text("", 0).go("fault = NONE");
    }

    private static void faultLeavesAll() {
        String[] faults = {"k1 90;x", "k1 90;f4;", EIGHT + "k", "k1 90;l0;l0;"};
        for (int kind = 1; kind <= 4; kind++) {
            Run with = rich();
            Run without = rich();
            with.text(faults[kind - 1], -10 - kind);
            due.holds("all is as it was: FAULT " + kind, with.examine().equals(without.examine()));
        }
    }

    private static Run rich() {
        return run("all is as it was").text("k100 90;k200 95;k300 110;l1;f1;s7;", 3).go("seed 99", "lie 1 0 50", "keep 0",
            "error 0 2 7", "alarm 0 300", "alarm 2 100", "keep 1", "tick 3", "round", "stand 2", "write 0 5", "write 2 300");
    }

    private static void textBeginsAnew() {
        rich().text("k5 100;k9 100;k2 100;", 3).go("told 0 = 3", "told 1 = 0", "told 2 = 10", "told 3 = 0", "told 4 = 0",
            "told 5 = 0", "told 6 = 7", "told 7 = 7", "told 9 = 0", "told 10 = 0", "told 11 = 0", "told 12 = 0", "told 13 = 0",
            "told 14 = NONE", "told 15 = 0", "alarmAt 0 0 = UNKNOWN", "undo 1 = NOT", "goBack 0 = NOT", "goBack 1 = NOT",
            "heard 1 0 2 = 9999", "heard 0 2 1 = 20", "clock 0 2 = 100000", "clock 2 5 = 0", "seed 1 = 99");
    }

    private static void newObject() {
        int[] want = {0, 0, 10, 0, 0, 0, 0, -1, -1, -1, 0, 0, 0, 0, -1, 0};
        for (int what = 0; what < want.length; what++) {
            run("A new object").go("told " + what + " = " + want[what]);
        }
        run("A new object").go("fault = NONE", "seed 0 = 0", "goBack 0 = NOT", "goBack 1 = NOT", "undo 1 = NOT", "tear = 0");
    }

    /** What asking works with must not be found again in the next text. */
    private static void textBehindAsking() {
        rich().go("behind 20", "within 0", "told 8", "heard 1 0 4").text("k5 100;k9 100;k2 100;", 3).go("heard 1 0 2 = 9999",
            "heard 0 2 1 = 20", "clock 0 2 = 100000", "told 2 = 10", "told 4 = 0", "told 5 = 0", "told 10 = 0", "told 11 = 0",
            "told 12 = 0", "behind 1 = 0");
    }

    /** Against the other reading of the text, so that no place or letter is left out. */
    private static void everyLetterAtEveryPlace() {
        for (String text : new String[] {"k12 100;l0;f1;s20;", "f1;k1 90;k 2 090 ;l1; l0;s10;"}) {
            for (int at = 0; at <= text.length(); at++) {
                asTheOtherReading(text.substring(0, at));
                for (int letter = 0; letter <= 255; letter++) {
                    asTheOtherReading(text.substring(0, at) + (char) letter + text.substring(at));
                    if (at < text.length()) {
                        asTheOtherReading(text.substring(0, at) + (char) letter + text.substring(at + 1));
                    }
                }
            }
        }
    }

    private static void asTheOtherReading(String text) {
        PlainText other = new PlainText(text);
        LiarClocks x = new LiarClocks();
        Due.feed(x, text);
        due.is("clocks() of '" + text + "'", x.clocks(), other.kind == 0 ? other.world.clocks.size() : -10 - other.kind);
        due.is("fault() of '" + text + "'", x.fault(), other.place);
    }
}
