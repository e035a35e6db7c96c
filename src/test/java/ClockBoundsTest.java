/** The bounds in the text block of section 1: TICK, HEARD, ROUND, JOINED, with promises 6, 7, 9 to 15. */
public final class ClockBoundsTest {
    private static final Due due = new Due();

    public static void main(String[] args) {
        atFirst();
        trueOnes();
        setsOfEight();
        stepToEitherSide();
        stepNothing();
        neverBackward();
        standingDoesNotTick();
        ticksAtLeastAndMost();
        errorBounds();
        lieBounds();
        waysOfEight();
        heardOfEachKind();
        heardByEachKind();
        allAtOnce();
        onlyTrueOnesMeet();
        allStruck();
        struckOnBothSides();
        roundedDown();
        middleNone();
        joinedHears();
        joinedOfEachKind();
        joinedAimsAtNothingMore();
        joinedBelowZero();
        liarCounts();
        standCounts();
        due.end();
    }

    private static Run run(String sentence, String text, int clocks) {
        return new Run(due, sentence).text(text, clocks);
    }

    private static String clocks(int n) {
        return "k5 100;".repeat(n);
    }

    private static void atFirst() {
        run("AHEAD (0 at first)", "k0 100;k9999 100;", 2).go("clock 0 2 = 100000", "clock 1 2 = 100000", "clock 0 3 = 100000",
            "clock 1 3 = 109999", "clock 0 4 = 0", "clock 0 5 = 0", "told 4 = 0", "told 5 = 0");
        run("ERROR, LIE: 0 at first", "k0 100;k9 100;", 2).go("heard 0 1 1 = 20", "heard 1 0 1 = 20", "heard 0 1 2 = 9999",
            "heard 1 0 2 = 9999");
        new Run(due, "A new object: no CLOCKS").go("told 0 = 0", "clock 0 0 = UNKNOWN", "heard 0 1 0 = UNKNOWN", "tick 1 = 0",
            "round = NONE", "drift 1 = NONE", "liar 0 true = UNKNOWN", "stand 0 = UNKNOWN", "join 0 = UNKNOWN",
            "alarm 0 0 = UNKNOWN", "write 0 0 = UNKNOWN", "lie 0 1 0 = UNKNOWN", "error 0 1 0 = UNKNOWN", "behind 0 = NONE",
            "within 0 = NONE", "tear = 0", "keep 0 = 1", "goBack 0 = 1");
    }

    private static void trueOnes() {
        run("TRUE ones: those that neither LIE nor STAND", clocks(4), 4).go("told 6 = 15", "liar 1 true = 1", "told 6 = 13",
            "stand 2 = 1", "told 6 = 9", "liar 2 true = 2", "told 6 = 9", "liar 2 false = 1", "told 6 = 9", "liar 1 false = 0",
            "told 6 = 11", "join 2 = 5", "told 6 = 15");
    }

    private static void setsOfEight() {
        run("A SET is a whole number, bit k for k", clocks(8), 8).go("told 6 = 255", "liar 7 true = 1", "told 4 = 128",
            "told 6 = 127", "stand 7 = 1", "told 5 = 128", "liar 0 true = 2", "told 4 = 129", "stand 0 = 2", "told 5 = 129",
            "told 6 = 126", "clock 7 4 = 1", "clock 7 5 = 1", "clock 6 4 = 0", "clock 6 5 = 0");
    }

    private static void stepToEitherSide() {
        // Both aim at 10: the one is 10 behind it, the other 10 beyond it.
        String text = "k0 100;k20 100;";
        run("STEP at most to either side: less", text + "s9;", 2).go("round = 0", "tick 1", "clock 0 0 = 109",
            "clock 0 2 = 100001", "clock 1 0 = 111", "clock 1 2 = 99999", "clock 0 3 = 100110", "tick 1", "clock 0 0 = 210",
            "clock 0 2 = 100000", "clock 1 0 = 210", "clock 1 2 = 100000", "tick 1", "clock 0 0 = 310", "clock 1 0 = 310");
        run("STEP at most to either side: as much", text + "s10;", 2).go("round = 0", "tick 1", "clock 0 0 = 110",
            "clock 0 2 = 100000", "clock 1 0 = 110", "clock 1 2 = 100000");
        run("STEP at most to either side: more", text + "s11;", 2).go("round = 0", "tick 1", "clock 0 0 = 110",
            "clock 0 2 = 100000", "clock 1 0 = 110", "clock 1 2 = 100000");
        run("STEP 1", text + "s1;", 2).go("round = 0", "tick 9", "clock 0 0 = 909", "clock 0 2 = 100001", "clock 1 2 = 99999",
            "tick 1", "clock 0 2 = 100000", "clock 1 2 = 100000", "clock 0 0 = 1010", "clock 1 0 = 1010");
    }

    private static void stepNothing() {
        run("STEP 0", "k0 90;k20 110;s0;", 2).go("round = 0", "tick 20", "clock 0 0 = 1800", "clock 0 2 = 100010",
            "clock 1 0 = 2220", "clock 1 2 = 99990");
    }

    private static void neverBackward() {
        run("STEP is less than any RATE", "k0 90;k400 90;s80;", 2).go("round = 0", "tick 1", "clock 0 0 = 170", "clock 1 0 = 410",
            "clock 1 2 = 99880", "tick 1", "clock 1 0 = 420", "tick 1", "clock 1 0 = 470", "clock 1 2 = 100000");
    }

    private static void standingDoesNotTick() {
        run("each CLOCK that does not STAND", "k0 100;k20 100;l1;", 2).go("lie 1 0 40", "round = 0", "clock 0 2 = 100020",
            "stand 0 = 1", "tick 1 = 0", "clock 0 0 = 0", "clock 0 2 = 100020", "clock 0 3 = 100020", "clock 1 0 = 120",
            "stand 1 = 2", "tick 20 = 0", "clock 1 0 = 120", "told 12 = 21");
    }

    private static void ticksAtLeastAndMost() {
        run("n TICKS (1 .. 20; one deed)", "k0 100;", 1).go("tick 0 = OUTSIDE", "tick 1 = 0", "clock 0 0 = 100",
            "told 12 = 1", "told 15 = 1", "tick 20 = 0", "clock 0 0 = 2100", "told 12 = 21", "told 15 = 2",
            "tick 21 = OUTSIDE", "tick -1 = OUTSIDE", "tick LEAST = OUTSIDE", "tick MOST = OUTSIDE", "told 12 = 21",
            "told 15 = 2", "clock 0 0 = 2100");
    }

    private static void errorBounds() {
        run("ERROR -20 .. 20", "k0 100;k50 100;", 2).go("error 1 0 -21 = OUTSIDE", "heard 1 0 1 = 20", "error 1 0 -20 = 20",
            "heard 1 0 1 = 0", "heard 1 0 0 = 100030", "error 1 0 20 = 0", "heard 1 0 1 = 40", "heard 1 0 0 = 100070",
            "error 1 0 21 = OUTSIDE", "error 1 0 LEAST = OUTSIDE", "error 1 0 MOST = OUTSIDE", "error 1 0 -1 = 40",
            "heard 1 0 0 = 100049", "heard 0 1 1 = 20", "told 15 = 3");
    }

    private static void lieBounds() {
        run("LIE -9999 .. 9999", "k0 100;k50 100;l1;", 2).go("lie 1 0 -10000 = OUTSIDE", "heard 1 0 2 = 9999",
            "lie 1 0 -9999 = 9999", "heard 1 0 2 = 0", "heard 1 0 0 = 90001", "lie 1 0 9999 = 0", "heard 1 0 2 = 19998",
            "heard 1 0 0 = 109999", "lie 1 0 10000 = OUTSIDE", "lie 1 0 LEAST = OUTSIDE", "lie 1 0 MOST = OUTSIDE",
            "lie 1 0 -1 = 19998", "heard 1 0 0 = 99999", "heard 0 1 2 = 9999", "told 15 = 3");
    }

    /** Of eight clocks every way has its own lie and error. */
    private static void waysOfEight() {
        Run lies = run("the LIE from j to i", clocks(8), 8);
        Run errors = run("the ERROR from j to i", clocks(8), 8);
        for (int j = 0; j < 8; j++) {
            for (int i = 0; i < 8; i++) {
                if (i != j) {
                    lies.go("lie " + j + " " + i + " " + (j * 100 + i) + " = 9999");
                    errors.go("error " + j + " " + i + " " + ((j * 8 + i) % 41 - 20) + " = 20");
                }
            }
        }
        for (int j = 0; j < 8; j++) {
            for (int i = 0; i < 8; i++) {
                if (i != j) {
                    lies.go("heard " + j + " " + i + " 2 = " + (j * 100 + i + 9999), "heard " + j + " " + i + " 1 = 20");
                    errors.go("heard " + j + " " + i + " 1 = " + (j * 8 + i) % 41, "heard " + j + " " + i + " 2 = 9999");
                }
            }
        }
    }

    private static void heardOfEachKind() {
        Run x = run("HEARD by i of j", "k100 100;k200 100;k300 100;k400 100;k500 100;l2;l4;", 5);
        for (int j = 1; j < 5; j++) {
            x.go("lie " + j + " 0 1000", "error " + j + " 0 7");
        }
        x.go("stand 3 = 1", "stand 4 = 2");
        x.go("heard 1 0 0 = 100207");
        x.go("heard 2 0 0 = 101100");
        x.go("heard 3 0 0 = 100100");
        // It LIES and STANDS: who stands tells nothing.
        x.go("heard 4 0 0 = 100100");
    }

    private static void heardByEachKind() {
        run("HEARD by one that LIES, that STANDS", "k100 100;k200 100;k300 100;l1;", 3).go("lie 1 2 -50", "error 0 1 -20",
            "stand 2 = 1", "heard 0 1 0 = 100080", "heard 2 1 0 = 100200", "heard 0 2 0 = 100100", "heard 1 2 0 = 100250");
        run("AIM, not VALUE, is HEARD", "k100 100;k200 100;k300 100;l2;", 3).go("lie 2 0 1000", "lie 2 1 1000", "round",
            "clock 0 3 = 100600", "clock 1 3 = 100650", "heard 1 0 0 = 100650", "heard 0 1 0 = 100600", "heard 2 0 0 = 101600",
            "clock 0 0 = 100", "clock 1 0 = 200");
    }

    private static void allAtOnce() {
        // One after the other 1 would hear 50 of 0, and both would not be alike.
        run("all at once", "k0 100;k100 100;", 2).go("round = 0", "clock 0 3 = 100050", "clock 1 3 = 100050");
        run("all at once", "k100 100;k0 100;k50 100;f1;", 3).go("error 0 1 20", "error 0 2 20", "round = 0", "clock 0 3 = 100050",
            "clock 1 3 = 100050", "clock 2 3 = 100050");
    }

    private static void onlyTrueOnesMeet() {
        run("all CLOCKS that neither LIE nor STAND", "k0 100;k100 100;k200 100;k300 100;l3;", 4).go("stand 2 = 1",
            "round = 0", "clock 0 2 = 100050", "clock 1 2 = 99950", "clock 2 2 = 100000", "clock 3 2 = 100000",
            "clock 0 0 = 0", "told 12 = 0");
    }

    private static void allStruck() {
        String sentence = "If all would be STRUCK: AHEAD stays";
        for (int f = 0; f <= 3; f++) {
            String far = "k100 100;" + "k0 100;".repeat(2 * f);
            run(sentence + ", 2 F and 1, F " + f, far + "f" + f + ";", 2 * f + 1).go("clock 0 6 = " + (f == 0 ? 100100 : 100000),
                "round = 0", "clock 0 3 = " + (f == 0 ? 100100 : 100000));
        }
        for (int f = 1; f <= 3; f++) {
            for (int n = 1; n <= 2 * f; n++) {
                String far = "k100 100;" + "k0 100;".repeat(n - 1);
                run(sentence + ", " + n + " of F " + f, far + "f" + f + ";", n).go("clock 0 6 = NONE",
                    "round = " + (n > 1 ? 100 : 0), "clock 0 2 = 100000", "told 15 = 1");
            }
        }
        // Those that stand are heard, too, so that it is the number of all that counts.
        run(sentence + ", of all", "k100 100;k0 100;k30 100;f1;", 3).go("stand 1 = 1", "stand 2 = 2", "clock 0 6 = 100100",
            "round = 0");
    }

    private static void struckOnBothSides() {
        String eight = "k0 100;k10 100;k30 100;k70 100;k150 100;k310 100;k630 100;k1270 100;";
        int[] middles = {635, 320, 170, 110};
        for (int f = 0; f <= 3; f++) {
            run("F lowest, F highest, F " + f, eight + "f" + f + ";", 8).go("clock 0 6 = " + (100000 + middles[f]),
                "clock 7 6 = " + (100000 + middles[f]), "round = 0", "clock 3 3 = " + (100000 + middles[f]));
        }
    }

    private static void roundedDown() {
        String sentence = "/ 2, rounded down";
        int[][] rows = {{0, 0}, {1, 0}, {2, 1}, {3, 1}, {-1, -1}, {-2, -1}, {-3, -2}, {9999, 4999}, {-9999, -5000}};
        for (int[] row : rows) {
            run(sentence, "k0 100;k7 100;l1;", 2).go("lie 1 0 " + row[0], "clock 0 6 = " + (100000 + row[1]), "round = 0",
                "clock 0 2 = " + (100000 + row[1]));
        }
    }

    private static void middleNone() {
        run("MIDDLE: NONE: it LIES or STANDS", clocks(3), 3).go("clock 0 6 = 100005", "liar 0 true = 1", "clock 0 6 = NONE",
            "stand 0 = 1", "clock 0 6 = NONE", "liar 0 false = 0", "clock 0 6 = NONE", "join 0 = 5", "clock 0 6 = 100005");
    }

    private static void joinedHears() {
        String sentence = "it must HEAR 2 F and 1 at least";
        for (int f = 0; f <= 3; f++) {
            int n = 2 * f + 2;
            // The last joins; it hears 2 F and 1, and 2 F when one more stands.
            run(sentence + ", F " + f, clocks(n) + "f" + f + ";", n).go("stand " + (n - 1) + " = 1", "stand 0 = 2",
                "join " + (n - 1) + " = NOT", "told 5 = " + (1 + (1 << n - 1)), "undo 1 = 0", "join " + (n - 1) + " = 5",
                "told 5 = 0");
        }
        run(sentence + ", those that LIE are HEARD", clocks(4) + "f1;l0;l1;l2;", 4).go("stand 3 = 1", "join 3 = 5");
        run(sentence + ", not itself", clocks(3) + "f1;", 3).go("stand 0 = 1", "join 0 = NOT");
        run(sentence + ", alone", clocks(1), 1).go("stand 0 = 1", "join 0 = NOT", "clock 0 5 = 1");
    }

    private static void joinedOfEachKind() {
        // It hears 107 of a true one and 300 + 31 of a liar, nothing of the fourth: 219.
        run("JOINED: what it HEARS", "k100 100;k200 100;k300 100;k9000 100;l1;", 4).go("error 0 2 7", "lie 1 2 31", "stand 2 = 1",
            "stand 3 = 2", "join 2 = 219", "clock 2 0 = 219", "clock 2 2 = 100000", "clock 2 5 = 0", "told 5 = 8", "told 15 = 5");
        run("JOINED: F lowest and highest STRUCK", "k0 100;k10 100;k30 100;k9000 100;f1;", 4).go("stand 3 = 1", "join 3 = 10");
        run("JOINED: one that LIES goes on to lie", "k100 100;k200 100;l1;", 2).go("stand 1 = 1", "join 1 = 100", "clock 1 4 = 1",
            "clock 1 5 = 0", "told 6 = 1");
        run("NOT: it does not STAND", clocks(2), 2).go("join 0 = NOT", "stand 0 = 1", "join 0 = 5", "join 0 = NOT",
            "told 15 = 2");
    }

    private static void joinedAimsAtNothingMore() {
        run("AHEAD 0", "k0 100;k100 100;k50 100;l2;", 3).go("round = 0", "clock 0 2 = 100050", "stand 0 = 1", "liar 1 true = 2",
            "lie 1 0 4", "lie 2 0 8", "join 0 = 56", "clock 0 2 = 100000", "clock 0 3 = 100056", "tick 1", "clock 0 0 = 156");
    }

    private static void joinedBelowZero() {
        int[][] rows = {{-1, -1}, {-3, -2}, {1, 0}, {3, 1}};
        for (int[] row : rows) {
            run("JOINED: MIDDLE rounded down", "k0 100;k7 100;k9 100;l1;l2;", 3).go("stand 0 = 1", "lie 1 0 " + row[0],
                "join 0 = " + row[1], "clock 0 0 = " + row[1]);
        }
    }

    private static void liarCounts() {
        run("liar: how many do", clocks(8), 8).go("liar 0 false = 0", "liar 0 true = 1", "liar 0 true = 1", "liar 7 true = 2",
            "liar 8 true = UNKNOWN", "liar -1 true = UNKNOWN", "liar 8 false = UNKNOWN", "liar LEAST true = UNKNOWN",
            "liar MOST true = UNKNOWN", "told 4 = 129", "liar 0 false = 1", "liar 0 false = 1", "liar 7 false = 0", "told 4 = 0",
            "told 15 = 7");
    }

    private static void standCounts() {
        Run x = run("stand: how many do", clocks(8), 8);
        for (int c = 0; c < 8; c++) {
            x.go("stand " + c + " = " + (c + 1), "stand " + c + " = NOT");
        }
        x.go("told 5 = 255", "told 15 = 8", "stand 8 = UNKNOWN", "stand -1 = UNKNOWN", "stand LEAST = UNKNOWN",
            "stand MOST = UNKNOWN", "join 0 = NOT", "round = NONE", "tick 20 = 0", "clock 7 0 = 5");
    }
}
