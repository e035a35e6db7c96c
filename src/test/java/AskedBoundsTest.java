/** The bounds of what is ASKED in section 2: promises 5 to 8, 19, 20. */
public final class AskedBoundsTest {
    private static final Due due = new Due();

    public static void main(String[] args) {
        whatIsAsked();
        whatIsAskedOfAClock();
        whatIsHeard();
        whatIsAskedOfAnAlarm();
        apart();
        behindBounds();
        behindEachNumberOfRounds();
        withinBounds();
        withinNothing();
        withinTwentyRounds();
        worstByTrueOnes();
        worstByLiars();
        worstOfStandingLiars();
        worstAllStruck();
        worstByErrors();
        mayLie();
        mayLieStanding();
        rank();
        rankOfLikeOnes();
        farthest();
        farthestOfLikeOnes();
        farthestAllStruck();
        farthestNone();
        due.end();
    }

    private static Run run(String sentence, String text, int clocks) {
        return new Run(due, sentence).text(text, clocks);
    }

    private static String clocks(int n) {
        return "k5 100;".repeat(n);
    }

    private static void whatIsAsked() {
        run("told: 0 .. 15", "k10 100;k20 100;k40 100;k70 100;l1;f1;s7;", 4).go("stand 2 = 1", "alarm 0 10 = 0",
            "alarm 1 99 = 1", "tick 2 = 2", "write 0 1 = 1", "feed 107 = 1", "feed 49 = 2").go("told -1 = OUTSIDE",
            "told 0 = 4", "told 1 = 1", "told 2 = 7", "told 3 = 2", "told 4 = 2", "told 5 = 4", "told 6 = 9", "told 7 = 60",
            "told 8 = 60", "told 9 = 0", "told 10 = 2", "told 11 = 3", "told 12 = 2", "told 13 = 1", "told 14 = 0",
            "told 15 = 4", "told 16 = OUTSIDE", "told LEAST = OUTSIDE", "told MOST = OUTSIDE");
    }

    private static void whatIsAskedOfAClock() {
        run("clock: 0 .. 6", "k10 100;k20 95;l1;", 2).go("lie 1 0 8", "round = 0", "clock 0 -1 = OUTSIDE", "clock 0 0 = 10",
            "clock 0 1 = 100", "clock 0 2 = 100004", "clock 0 3 = 100014", "clock 0 4 = 0", "clock 0 5 = 0",
            "clock 0 6 = 100018", "clock 0 7 = OUTSIDE", "clock 0 LEAST = OUTSIDE", "clock 0 MOST = OUTSIDE",
            "clock -1 0 = UNKNOWN", "clock 1 0 = 20", "clock 1 1 = 95", "clock 1 4 = 1", "clock 2 0 = UNKNOWN",
            "clock LEAST 0 = UNKNOWN", "clock MOST 0 = UNKNOWN");
        run("clock: 7 is the last", clocks(8), 8).go("clock 7 0 = 5", "clock 8 0 = UNKNOWN");
    }

    private static void whatIsHeard() {
        run("heard: 0 .. 4", "k10 100;k20 95;l1;", 2).go("lie 1 0 8", "error 1 0 -3", "heard 1 0 -1 = OUTSIDE",
            "heard 1 0 0 = 100018", "heard 1 0 1 = 17", "heard 1 0 2 = 10007", "heard 1 0 3 = 1", "heard 1 0 4 = 0",
            "heard 1 0 5 = OUTSIDE", "heard 1 0 LEAST = OUTSIDE", "heard 1 0 MOST = OUTSIDE");
        run("heard: from j to i (unlike)", clocks(3), 3).go("heard 0 2 0 = 100005", "heard 2 0 0 = 100005",
            "heard 0 0 0 = UNKNOWN", "heard 2 2 0 = UNKNOWN", "heard -1 0 0 = UNKNOWN", "heard 3 0 0 = UNKNOWN",
            "heard 0 -1 0 = UNKNOWN", "heard 0 3 0 = UNKNOWN", "heard 3 3 0 = UNKNOWN", "heard -1 3 0 = UNKNOWN",
            "heard LEAST 0 0 = UNKNOWN", "heard 0 LEAST 0 = UNKNOWN", "heard MOST 0 0 = UNKNOWN", "heard 0 MOST 0 = UNKNOWN");
    }

    private static void whatIsAskedOfAnAlarm() {
        run("alarmAt: 0 .. 2", clocks(3), 3).go("alarmAt 0 0 = UNKNOWN", "alarm 2 9 = 0", "alarm 1 5 = 1",
            "alarmAt -1 0 = UNKNOWN", "alarmAt 0 -1 = OUTSIDE", "alarmAt 0 0 = 2", "alarmAt 0 1 = 9", "alarmAt 0 2 = 0",
            "alarmAt 0 3 = OUTSIDE", "alarmAt 1 0 = 1", "alarmAt 1 1 = 5", "alarmAt 1 2 = 1", "alarmAt 2 0 = UNKNOWN",
            "alarmAt LEAST 0 = UNKNOWN", "alarmAt MOST 0 = UNKNOWN", "alarmAt 0 LEAST = OUTSIDE", "alarmAt 0 MOST = OUTSIDE",
            "undo 1 = 0", "alarmAt 1 0 = UNKNOWN", "alarmAt 0 0 = 2");
    }

    private static void apart() {
        run("APART: 0 for one; NONE for none", "k10 100;k90 100;k50 100;", 3).go("told 7 = 80", "liar 1 true = 1", "told 7 = 40",
            "stand 2 = 1", "told 7 = 0", "liar 0 true = 2", "told 7 = NONE", "liar 0 false = 1", "stand 0 = 2", "told 7 = NONE");
        run("APART: the greatest AIM less the least", "k10 100;k90 100;k50 100;", 3).go("tick 1 = 0", "told 7 = 80", "round = 0",
            "told 7 = 0", "clock 0 0 = 110", "clock 1 0 = 190");
        new Run(due, "APART without CLOCKS").go("told 7 = NONE");
    }

    private static void behindBounds() {
        run("BEHIND n ROUNDS (0 .. 20)", "k0 100;k64 100;", 2).go("behind -1 = OUTSIDE", "behind 0 = 64", "behind 1 = 0",
            "behind 20 = 0", "behind 21 = OUTSIDE", "behind LEAST = OUTSIDE", "behind MOST = OUTSIDE", "told 15 = 0",
            "told 7 = 64");
        run("BEHIND: NONE", "k0 100;k64 100;l0;l1;", 2).go("behind 0 = NONE", "behind 1 = NONE", "behind 20 = NONE",
            "behind 21 = OUTSIDE");
        new Run(due, "BEHIND without CLOCKS").go("behind 0 = NONE", "behind 20 = NONE", "behind -1 = OUTSIDE");
        run("BEHIND, all STRUCK", "k0 100;k64 100;f1;", 2).go("behind 0 = 64", "behind 1 = 64", "behind 20 = 64");
    }

    /**
     * 0 goes far away, 9999 by each round; then 1 and 2 are at 0 and true, and what they are apart is halved by each
     * round: 0 hears itself twice (3 tells it its own AIM) and 0 twice, the others hear 0 three times.
     */
    private static Run halving(String sentence, int rounds) {
        return run(sentence, "k0 100;k0 100;k0 100;k0 100;l1;l2;l3;f1;", 4).go("lie 1 0 9999", "lie 2 0 9999", "lie 3 0 9999")
            .times(rounds, "round = 0").go("lie 3 0 0", "liar 1 false", "liar 2 false", "told 7 = " + rounds * 9999);
    }

    private static void behindEachNumberOfRounds() {
        Run x = halving("BEHIND n ROUNDS", 210);
        for (int n = 0; n <= 20; n++) {
            x.go("behind " + n + " = " + (2099790 >> n));
        }
        x.go("behind 21 = OUTSIDE", "told 7 = 2099790");
    }

    private static void withinBounds() {
        run("WITHIN b (0 .. 9999)", "k0 100;k9999 100;", 2).go("within -1 = OUTSIDE", "within 0 = 1", "within 9998 = 1",
            "within 9999 = 0", "within 10000 = OUTSIDE", "within LEAST = OUTSIDE", "within MOST = OUTSIDE", "told 15 = 0",
            "told 7 = 9999");
        run("WITHIN: APART is b at most", "k0 100;k64 100;k64 100;k64 100;l3;f1;", 4).go("within 64 = 0", "within 63 = 1",
            "within 32 = 1", "within 31 = 2", "within 16 = 2", "within 15 = 3");
        run("WITHIN: 0 ROUNDS", "k5 100;k5 100;", 2).go("within 0 = 0");
        run("WITHIN: one is never apart", "k5 100;", 1).go("within 0 = 0", "within 9999 = 0");
    }

    private static void withinNothing() {
        run("WITHIN: NONE, none is TRUE", "k5 100;l0;", 1).go("within 0 = NONE", "within 9999 = NONE", "within 10000 = OUTSIDE");
        run("WITHIN: NONE, all STAND", "k5 100;", 1).go("stand 0 = 1", "within 0 = NONE", "within 9999 = NONE");
        new Run(due, "WITHIN without CLOCKS").go("within 0 = NONE", "within 9999 = NONE", "within -1 = OUTSIDE");
        run("WITHIN: NONE, all STRUCK", "k0 100;k9 100;f1;", 2).go("within 9 = 0", "within 8 = NONE");
    }

    private static void withinTwentyRounds() {
        // 2099790 is 2 behind 20 rounds and 1 behind 21.
        halving("WITHIN: ROUNDS 0 .. 20", 210).go("within 4 = 19", "within 3 = 20", "within 2 = 20", "within 1 = NONE",
            "within 0 = NONE", "within 9999 = 8", "round = 1049895", "within 2 = 19", "within 1 = 20", "within 0 = NONE",
            "round = 524947", "within 1 = 19", "within 0 = 20");
    }

    private static void worstByTrueOnes() {
        run("WORST: of two, one, none that are TRUE", "k10 100;k90 100;k50 100;l2;", 3).go("told 8 = 1000000", "liar 1 true = 2",
            "told 8 = 0", "liar 0 true = 3", "told 8 = NONE");
        new Run(due, "WORST without CLOCKS").go("told 8 = NONE");
        run("WORST: none LIES", "k10 100;k90 100;k50 100;", 3).go("told 8 = 0", "error 0 1 -20", "told 8 = 10", "behind 1 = 10");
    }

    private static void worstByLiars() {
        String eight = "k0 100;k10 100;k20 100;k30 100;k40 100;k50 100;k60 100;k70 100;";
        String[] liars = {"", "l7;", "l7;l6;", "l7;l6;l5;", "l7;l6;l5;l4;"};
        // By each liar that is struck the ends of what is left come one true clock, that is 10, farther apart.
        int[][] worst = {
            {0, 1000000, 1000000, 1000000, 1000000},
            {0, 10, 1000000, 1000000, 1000000},
            {0, 10, 20, 1000000, 1000000},
            {0, 10, 20, 30, 1000000},
        };
        for (int f = 0; f <= 3; f++) {
            for (int lying = 0; lying <= 4; lying++) {
                run("WORST: F " + f + ", " + lying + " LIE", eight + liars[lying] + "f" + f + ";", 8)
                    .go("told 8 = " + worst[f][lying]);
            }
        }
        run("WORST: whatever they tell, not as told", "k0 100;k60 100;k120 100;k9 100;l3;f1;", 4).go("told 8 = 60",
            "lie 3 0 9999", "lie 3 1 -9999", "lie 3 2 5", "told 8 = 60");
    }

    private static void worstOfStandingLiars() {
        run("WORST: one that STANDS tells nothing", "k0 100;k60 100;k9 100;l2;", 3).go("told 8 = 1000000", "stand 2 = 1",
            "told 8 = 0");
    }

    private static void worstAllStruck() {
        run("WORST: all STRUCK", "k0 100;k60 100;k9 100;k9 100;l2;l3;f2;", 4).go("told 8 = 60");
        run("WORST: all STRUCK, one LIES beyond F", "k0 100;k60 100;l0;f1;", 2).go("told 8 = 0", "liar 0 false = 0",
            "told 8 = 60");
        run("WORST: one is left", "k0 100;k60 100;k9 100;k9 100;k9 100;l2;l3;l4;f2;", 5).go("told 8 = 1000000");
    }

    private static void worstByErrors() {
        run("WORST: ERRORS as told", "k0 100;k60 100;k120 100;k9 100;l3;f1;", 4).go("told 8 = 60", "error 2 0 20", "told 8 = 70",
            "error 0 2 -20", "told 8 = 80", "error 3 0 20", "told 8 = 80");
    }

    private static void mayLie() {
        for (int n = 1; n <= 8; n++) {
            for (int f = 0; f <= 3; f++) {
                int most = n >= 7 ? 2 : n >= 4 ? 1 : 0;
                run("MAY LIE of " + n + ", F " + f, clocks(n) + "f" + f + ";", n).go("told 9 = " + Math.min(most, f));
            }
        }
        new Run(due, "MAY LIE without CLOCKS").go("told 9 = NONE");
    }

    private static void mayLieStanding() {
        run("MAY LIE of those that do not STAND", clocks(8) + "f3;l0;l1;l2;", 8).go("told 9 = 2", "stand 0 = 1", "told 9 = 2",
            "stand 7 = 2", "told 9 = 1", "stand 6 = 3", "stand 5 = 4", "told 9 = 1", "stand 4 = 5", "told 9 = 0",
            "stand 3 = 6", "stand 2 = 7", "told 9 = 0", "stand 1 = 8", "told 9 = NONE");
    }

    private static void rank() {
        Run x = run("RANK: 0 the lowest", "k70 100;k10 100;k60 100;k20 100;k50 100;k30 100;k40 100;k0 100;", 8);
        int[] places = {7, 1, 6, 2, 5, 3, 4, 0};
        for (int j = 0; j < 8; j++) {
            x.go("heard " + j + " " + (j == 0 ? 7 : 0) + " 3 = " + places[j]);
        }
        run("RANK of a LIE", "k10 100;k20 100;k30 100;l2;", 3).go("lie 2 0 -1", "heard 2 0 3 = 0", "lie 2 0 0",
            "heard 2 0 3 = 1", "lie 2 0 9", "heard 2 0 3 = 1", "lie 2 0 10", "heard 2 0 3 = 2", "heard 1 0 3 = 1",
            "lie 2 0 11", "heard 2 0 3 = 2");
    }

    private static void rankOfLikeOnes() {
        Run x = run("RANK: of like ones the lesser number first", clocks(8), 8);
        for (int j = 0; j < 8; j++) {
            x.go("heard " + j + " " + (j + 1) % 8 + " 3 = " + j);
        }
        run("RANK of one that STANDS, for one that STANDS", "k10 100;k20 100;k30 100;", 3).go("stand 0 = 1", "heard 0 2 3 = 1",
            "heard 1 2 3 = 0", "stand 2 = 2", "heard 0 2 3 = 1", "heard 1 2 3 = 0", "heard 2 0 3 = 1", "heard 1 0 3 = 2");
    }

    private static void farthest() {
        String text = "k100 100;k200 100;k300 100;k0 100;l3;f1;";
        run("FARTHEST: 9999 for the lowest, -9999 for the highest", text, 4).go("heard 3 0 4 = 19998", "heard 3 2 4 = 0");
        // Another liar pulls 0 down or up by as much: together with it the farthest is where it is.
        run("FARTHEST: -9999", "k0 100;k0 100;k0 100;l1;l2;", 3).go("lie 2 0 -100", "heard 1 0 4 = 0");
        run("FARTHEST: 9999", "k0 100;k0 100;k0 100;l1;l2;", 3).go("lie 2 0 100", "heard 1 0 4 = 19998");
        // The own lie as told does not matter.
        run("FARTHEST: not by the LIE as told", "k0 100;k0 100;k0 100;l1;l2;", 3).go("lie 2 0 100", "lie 1 0 -9999",
            "heard 1 0 4 = 19998", "heard 1 0 2 = 0");
        run("FARTHEST: from AIM, not from VALUE", "k0 100;k0 100;k0 100;l1;l2;", 3).go("lie 2 0 200", "round = 0",
            "clock 0 3 = 100100", "lie 2 0 -100", "heard 1 0 4 = 0", "lie 2 0 100", "heard 1 0 4 = 19998");
    }

    private static void farthestOfLikeOnes() {
        // It is rounded down, so that -9999 takes it by 5000 and 9999 by 4999.
        run("FARTHEST: rounded down", "k0 100;k0 100;l1;", 2).go("heard 1 0 4 = 0");
        run("FARTHEST: of all three the first", "k0 100;k0 100;k0 100;l2;f1;", 3).go("heard 2 0 4 = 0");
        // By -9999 it goes to -4999 (from -9998 or -9997), by 9999 to 4999; from -9996 it is one less.
        run("FARTHEST: of -9999 and 9999 the first", "k0 100;k0 100;k0 100;l1;l2;", 3).go("lie 2 0 1", "heard 1 0 4 = 0",
            "lie 2 0 2", "heard 1 0 4 = 0", "lie 2 0 3", "heard 1 0 4 = 19998");
        // By -9999 it stays; by 0 and by 9999 it goes to 4999, half of the other's lie.
        run("FARTHEST: of 0 and 9999 the first", "k0 100;k9000 100;k0 100;k0 100;l2;l3;", 4).go("lie 3 0 9999",
            "error 1 0 20", "heard 2 0 4 = 9999");
    }

    private static void farthestAllStruck() {
        run("FARTHEST: -9999, if all would be STRUCK", "k0 100;k100 100;l1;f1;", 2).go("heard 1 0 4 = 0");
        run("FARTHEST: one is left", "k0 100;k100 100;k0 100;l2;f1;", 3).go("heard 2 0 4 = 19998");
    }

    private static void farthestNone() {
        run("FARTHEST: NONE: i LIES or STANDS", "k0 100;k100 100;k0 100;l2;", 3).go("heard 2 0 4 = 19998", "liar 0 true = 2",
            "heard 2 0 4 = NONE", "stand 0 = 1", "heard 2 0 4 = NONE", "liar 0 false = 1", "heard 2 0 4 = NONE");
        run("FARTHEST: NONE: j does not LIE, or STANDS", "k0 100;k100 100;k0 100;l2;", 3).go("heard 1 0 4 = NONE",
            "heard 2 0 4 = 19998", "stand 2 = 1", "heard 2 0 4 = NONE", "liar 2 false = 0", "heard 2 0 4 = NONE");
    }
}
