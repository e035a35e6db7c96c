import java.util.ArrayList;
import java.util.List;

/** The bounds of ALARMS, THE BOOK, BY DRAWS, UNDONE, IMAGES in section 2: promises 8, 9, 16 to 18, 21 to 25. */
public final class DeedBoundsTest {
    private static final Due due = new Due();
    private static final String TWO = "k0 100;k20 100;";
    private static final String[] DEEDS = {"tick 1", "tick 20", "round", "lie 0 1 9", "lie 0 1 0", "error 1 0 -9", "error 1 0 0",
        "liar 0 true", "liar 0 false", "stand 1", "join 3", "alarm 0 0", "alarm 2 999999"};
    private static final String[] NO_DEEDS = {"feed 32", "fault", "told 8", "clock 0 6", "heard 2 0 4", "alarmAt 0 0", "behind 20",
        "within 0", "write 0 0", "tear", "seed 5"};

    public static void main(String[] args) {
        alarmsAtMost();
        alarmValues();
        alarmAtOnce();
        alarmByTick();
        alarmWithinManyTicks();
        alarmNotByAim();
        alarmByJoining();
        alarmStaysRung();
        alarmAtTheGreatestValue();
        alarmBelowZero();
        alarmOfOneThatStands();
        timesCount();
        bookAtMost();
        bookOfAnyAim();
        bookWrong();
        bookTorn();
        bookStays();
        seedBounds();
        drawsOfTheSeed();
        drawsOfLieAndError();
        drawsOfLikeOnes();
        drawsOfEight();
        driftBounds();
        driftWithoutClocks();
        eachTimeIsADeed();
        undoneDeeds();
        noDeeds();
        undoBounds();
        sixteenAreKept();
        undoneSinceTextOrImage();
        seedIsNotUndone();
        imageNumbers();
        imagesKeepAll();
        imagesOfEightClocks();
        imagesOfSixAlarms();
        imagesAreTwo();
        imagesAreGone();
        due.end();
    }

    private static Run run(String sentence, String text, int clocks) {
        return new Run(due, sentence).text(text, clocks);
    }

    private static void alarmsAtMost() {
        Run x = run("ALARMS (6 at most)", "k0 100;".repeat(8), 8);
        for (int a = 0; a < 6; a++) {
            x.go("told 10 = " + a, "alarm 7 " + (100 - a) + " = " + a);
        }
        x.go("told 10 = 6", "alarm 7 1 = FULL", "told 10 = 6", "told 15 = 6", "alarmAt 5 0 = 7", "alarmAt 5 1 = 95",
            "alarmAt 6 0 = UNKNOWN", "told 11 = 0", "tick 1 = 63", "told 11 = 63", "alarmAt 5 2 = 1", "undo 2 = 0",
            "told 10 = 5", "alarm 7 101 = 5", "tick 1 = 31", "tick 1 = 32");
    }

    private static void alarmValues() {
        run("ALARM: VALUE 0 .. 999999", TWO, 2).go("alarm 0 -1 = OUTSIDE", "alarm 0 0 = 0", "alarm 0 999999 = 1",
            "alarm 0 1000000 = OUTSIDE", "alarm 0 LEAST = OUTSIDE", "alarm 0 MOST = OUTSIDE", "alarmAt 0 1 = 0",
            "alarmAt 1 1 = 999999", "told 10 = 2", "told 15 = 2");
    }

    private static void alarmAtOnce() {
        run("RUNG at once, if the CLOCK is there or more", TWO, 2).go("alarm 1 19 = 0", "alarm 1 20 = 1", "alarm 1 21 = 2",
            "alarm 0 0 = 3", "alarm 0 1 = 4", "told 11 = 11", "alarmAt 1 2 = 1", "alarmAt 2 2 = 0", "tick 1 = 20");
    }

    private static void alarmByTick() {
        run("RUNG by a TICK", TWO, 2).go("alarm 0 99 = 0", "alarm 0 100 = 1", "alarm 0 101 = 2", "alarm 1 120 = 3",
            "alarm 1 121 = 4", "told 11 = 0", "tick 1 = 11", "told 11 = 11", "tick 1 = 20", "told 11 = 31", "tick 1 = 0");
    }

    private static void alarmWithinManyTicks() {
        run("ALARMS that are RUNG by it (a SET)", TWO, 2).go("alarm 0 1 = 0", "alarm 0 2000 = 1", "alarm 0 2001 = 2",
            "alarm 1 999 = 3", "tick 20 = 11", "tick 1 = 4", "tick 20 = 0", "told 11 = 15");
    }

    private static void alarmNotByAim() {
        run("its VALUE, not its AIM", "k0 100;k200 100;s0;", 2).go("alarm 0 1 = 0", "alarm 0 101 = 1", "round = 0",
            "clock 0 3 = 100100", "told 11 = 0", "tick 1 = 1", "clock 0 0 = 100", "clock 0 3 = 100200", "told 11 = 1");
    }

    private static void alarmByJoining() {
        run("RUNG by JOINING", TWO, 2).go("stand 0 = 1", "alarm 0 19 = 0", "alarm 0 20 = 1", "alarm 0 21 = 2",
            "alarm 1 21 = 3", "told 11 = 0", "join 0 = 20", "told 11 = 3", "tick 1 = 12", "undo 2 = 0", "told 11 = 0");
    }

    private static void alarmStaysRung() {
        run("it stays RUNG", "k500 100;k100 100;", 2).go("alarm 0 500 = 0", "told 11 = 1", "stand 0 = 1", "join 0 = 100",
            "told 11 = 1", "tick 4 = 0", "clock 0 0 = 500", "told 11 = 1", "alarm 0 500 = 1", "alarm 0 501 = 2",
            "told 11 = 3", "tick 1 = 4");
    }

    /** The liar takes 0 up by 9999 each time it joins. */
    private static void alarmAtTheGreatestValue() {
        Run x = run("an ALARM at 999999", "k0 100;k0 100;l1;", 2).go("alarm 0 999999 = 0", "lie 1 0 9999");
        for (int k = 1; k <= 100; k++) {
            x.go("stand 0 = 1", "join 0 = " + 9999 * k);
        }
        x.go("stand 0 = 1", "lie 1 0 98", "join 0 = 999998", "told 11 = 0", "alarm 0 999998 = 1", "told 11 = 2",
            "stand 0 = 1", "lie 1 0 1", "join 0 = 999999", "told 11 = 3", "clock 0 3 = 1099999");
    }

    private static void alarmBelowZero() {
        run("an ALARM at 0", "k0 100;k0 100;l1;", 2).go("lie 1 0 -1", "stand 0 = 1", "join 0 = -1", "clock 0 0 = -1",
            "alarm 0 0 = 0", "told 11 = 0", "stand 0 = 1", "lie 1 0 1", "join 0 = 0", "told 11 = 1");
    }

    private static void alarmOfOneThatStands() {
        run("one that STANDS is not there by a TICK", TWO, 2).go("stand 0 = 1", "alarm 0 0 = 0", "alarm 0 1 = 1",
            "told 11 = 1", "tick 20 = 0", "told 11 = 1");
    }

    private static void timesCount() {
        run("TIMES: how many TICKS", TWO, 2).go("told 12 = 0", "tick 1", "told 12 = 1", "tick 20", "told 12 = 21", "round",
            "told 12 = 21", "undo 1 = 21", "undo 1 = 1", "undo 1 = 0");
        new Run(due, "TIMES without CLOCKS").go("tick 20 = 0", "told 12 = 20", "undo 1 = 0");
    }

    private static void bookAtMost() {
        Run x = run("THE BOOK (20 at most)", TWO, 2);
        for (int k = 1; k <= 20; k++) {
            x.go("write 1 20 = " + k, "told 13 = " + k);
        }
        x.go("write 1 20 = FULL", "told 13 = 20", "told 14 = NONE", "tear = 20", "told 13 = 0", "write 1 20 = 1");
        x.go("write -1 0 = UNKNOWN", "write 2 0 = UNKNOWN", "write LEAST 0 = UNKNOWN", "write MOST 0 = UNKNOWN", "told 13 = 1");
    }

    private static void bookOfAnyAim() {
        run("AIM v, any", TWO, 2).go("write 0 0 = 1", "told 14 = NONE", "write 0 LEAST = 2", "told 14 = 1",
            "write 0 MOST = 3", "told 14 = 1", "tear = 3", "write 0 MOST = 1", "told 14 = 0");
        run("AIM below 0", "k0 100;k0 100;l1;", 2).go("lie 1 0 -9999", "round = 0", "clock 0 3 = 95000", "write 0 -5000 = 1",
            "told 14 = NONE", "write 0 -5001 = 2", "told 14 = 1");
    }

    private static void bookWrong() {
        run("WRONG: NONE of no entries", TWO, 2).go("told 14 = NONE");
        for (int wrong = 0; wrong < 20; wrong++) {
            Run x = run("WRONG: the first that is otherwise now", TWO, 2);
            for (int k = 0; k < 20; k++) {
                x.go("write " + k % 2 + " " + (k % 2 * 20 + (k >= wrong ? 1 : 0)));
            }
            x.go("told 14 = " + wrong);
        }
        run("WRONG: by one more or less", TWO, 2).go("write 1 19", "told 14 = 0", "tear", "write 1 20", "told 14 = NONE",
            "tear", "write 1 21", "told 14 = 0");
        run("WRONG: AIM, not VALUE", TWO, 2).go("round = 0", "write 0 10", "told 14 = NONE", "write 0 0", "told 14 = 1");
        run("WRONG: of one that LIES, that STANDS", TWO, 2).go("write 0 0", "write 1 20", "liar 0 true", "stand 1",
            "told 14 = NONE", "tick 1", "told 14 = 0", "tear", "write 0 100", "write 1 20", "told 14 = NONE");
    }

    private static void bookTorn() {
        run("No BOOK: how much it had", TWO, 2).go("tear = 0", "write 0 0", "tear = 1", "tear = 0", "told 13 = 0");
        new Run(due, "No BOOK without CLOCKS").go("tear = 0");
    }

    private static void bookStays() {
        run("THE BOOK is not undone, no IMAGE has it", TWO, 2).go("keep 0 = 1", "write 0 100 = 1", "told 14 = 0", "tick 1",
            "told 14 = NONE", "undo 1", "told 13 = 1", "told 14 = 0", "tick 1", "keep 1 = 1", "told 13 = 1", "goBack 0 = 1",
            "told 13 = 1", "told 14 = 0", "goBack 1 = 1", "told 14 = NONE").text("k1 1", -12).go("told 13 = 1").text(TWO,
            2).go("told 13 = 0", "told 14 = NONE");
    }

    private static void seedBounds() {
        new Run(due, "THE SEED (0 at first), 0 .. 2147483647").go("seed -1 = OUTSIDE", "seed LEAST = OUTSIDE", "seed 1 = 0",
            "seed -1 = OUTSIDE", "seed MOST = 1", "seed 0 = 2147483647", "seed 0 = 0", "told 15 = 0");
    }

    /** What five draws come to was reckoned apart from Java. */
    private static void drawsOfTheSeed() {
        int[][] rows = {{0, 229283573}, {1, 2035015474}, {2, 1693263727}, {3, 1351511980}, {2147483647, 571035320}};
        for (int[] row : rows) {
            run("left over by 2 to the 31", TWO, 2).go("seed " + row[0], "drift 1", "seed 0 = " + row[1]);
        }
    }

    private static void drawsOfLieAndError() {
        run("of 2001 (less 1000): the least", TWO, 2).go("seed 16679", "drift 1 = 20", "heard 1 0 2 = 8999",
            "heard 1 0 1 = 16", "heard 0 1 2 = 9999", "heard 0 1 1 = 20", "told 12 = 1", "seed 0 = 1720980800");
        run("of 2001 (less 1000): the greatest", TWO, 2).go("seed 22476", "drift 1 = 20", "heard 1 0 2 = 10999",
            "heard 1 0 1 = 15", "told 12 = 1", "clock 0 0 = 100", "seed 0 = 566026897");
        // 0 tells 1 that it is at -20: 1 aims at 0, 0 at 10.
        run("of 41 (less 20): the least; on 0 a ROUND", TWO, 2).go("seed 400", "drift 1 = 10", "heard 0 1 1 = 0",
            "heard 0 1 2 = 10501", "told 12 = 0", "clock 0 0 = 0", "clock 0 3 = 100010", "clock 1 3 = 100000",
            "seed 0 = 967538245");
        // 1 tells 0 that it is at 40: 0 aims at 20, 1 at 10.
        run("of 41 (less 20): the greatest; on 0 a ROUND", TWO, 2).go("seed 325", "drift 1 = 10", "heard 1 0 1 = 40",
            "heard 1 0 2 = 9074", "clock 0 3 = 100020", "clock 1 3 = 100010", "told 12 = 0", "seed 0 = 829115494");
    }

    private static void drawsOfLikeOnes() {
        String[] nothing = {"heard 0 1 1 = 20", "heard 1 0 1 = 20", "heard 0 1 2 = 9999", "heard 1 0 2 = 9999", "told 15 = 1"};
        run("if they are unlike; on 0 a ROUND", TWO, 2).go("seed 3", "drift 1 = 0").go(nothing).go("told 12 = 0",
            "clock 0 2 = 100010");
        run("if they are unlike; on 1 a TICK", TWO, 2).go("seed 1", "drift 1 = 20").go(nothing).go("told 12 = 1",
            "clock 0 2 = 100000");
        run("if they are unlike; on 2 a TICK", TWO, 2).go("seed 7", "drift 1 = 20").go(nothing).go("told 12 = 1",
            "clock 0 0 = 100");
        run("one CLOCK is always like itself", "k0 100;", 1).go("seed 1", "drift 1 = 0", "told 12 = 1", "told 15 = 1",
            "seed 0 = 2035015474");
    }

    private static void drawsOfEight() {
        String eight = "k0 100;".repeat(8);
        run("a DRAW of CLOCKS (j): the last", eight, 8).go("seed 57", "drift 1 = 0", "heard 7 0 2 = 10146",
            "heard 7 0 1 = 40", "seed 0 = 76786826");
        run("a DRAW of CLOCKS (i): the last", eight, 8).go("seed 118", "drift 1 = 0", "heard 0 7 2 = 9812",
            "heard 0 7 1 = 24", "seed 0 = 704766739");
    }

    private static void driftBounds() {
        run("n times BY DRAWS (1 .. 16)", TWO, 2).go("drift 0 = OUTSIDE", "drift 17 = OUTSIDE", "drift -1 = OUTSIDE",
            "drift LEAST = OUTSIDE", "drift MOST = OUTSIDE", "told 15 = 0", "told 12 = 0", "drift 1", "told 15 = 1",
            "seed 0 = 229283573");
        Run ones = run("sixteen times one", TWO, 2).go("seed 77").times(16, "drift 1");
        Run sixteen = run("n times BY DRAWS, 16", TWO, 2).go("seed 77", "drift 16", "told 15 = 16");
        due.holds("16 times at once", ones.examine().equals(sixteen.examine()));
        run("APART (NONE)", "k5 100;l0;", 1).go("drift 1 = NONE", "drift 16 = NONE", "told 15 = 16");
    }

    private static void driftWithoutClocks() {
        new Run(due, "n times, if there are CLOCKS").go("seed 9", "drift 0 = OUTSIDE", "drift 1 = NONE", "drift 16 = NONE",
            "drift 17 = OUTSIDE", "told 15 = 0", "told 12 = 0", "seed 0 = 9");
    }

    private static void eachTimeIsADeed() {
        for (int n = 1; n <= 16; n++) {
            Run whole = run("each of the times BY DRAWS", TWO, 2).go("seed 5", "drift 16", "undo " + n);
            Run part = run("each of the times BY DRAWS", TWO, 2).go("seed 5");
            if (n < 16) {
                part.go("drift " + (16 - n));
            }
            whole.go("seed 1");
            part.go("seed 1");
            due.holds("drift(16) and undo(" + n + ")", whole.examine().equals(part.examine()));
        }
    }

    private static Run ready(String sentence) {
        return run(sentence, "k100 90;k200 95;k300 110;k50 100;l2;s7;", 4).go("seed 99", "keep 0", "lie 2 0 50",
            "error 0 1 7", "alarm 0 150", "tick 2", "round", "stand 3");
    }

    private static void undoneDeeds() {
        for (String deed : DEEDS) {
            Run with = ready("a deed: " + deed).go("told 15 = 6", deed, "told 15 = 7", "undo 1", "told 15 = 6");
            due.holds("undone: " + deed, with.examine().equals(ready("as it was").examine()));
        }
    }

    private static void noDeeds() {
        for (String ask : NO_DEEDS) {
            ready("no deed: " + ask).go(ask, "told 15 = 6", "undo 1 = 2", "told 5 = 0");
        }
    }

    private static void undoBounds() {
        Run none = run("The n latest (1 .. 16)", TWO, 2).go("undo 0 = OUTSIDE", "undo 1 = NOT", "undo 16 = NOT",
            "undo 17 = OUTSIDE", "undo -1 = OUTSIDE", "undo LEAST = OUTSIDE", "undo MOST = OUTSIDE");
        none.go("tick 1", "undo 2 = NOT", "told 12 = 1", "undo 1 = 0", "undo 1 = NOT");
        run("NOT: not so many", TWO, 2).times(15, "tick 1").go("undo 16 = NOT", "told 15 = 15", "told 12 = 15", "tick 1",
            "undo 17 = OUTSIDE", "told 15 = 16", "undo 16 = 0", "told 15 = 0", "undo 1 = NOT");
    }

    private static void sixteenAreKept() {
        String sentence = "16 at most are kept";
        for (int deeds = 15; deeds <= 35; deeds++) {
            Run x = run(sentence, TWO, 2).times(deeds, "tick 1");
            int kept = Math.min(deeds, 16);
            x.go("told 15 = " + kept, "undo " + kept + " = " + (deeds - kept), "clock 0 0 = " + 100 * (deeds - kept),
                "told 15 = 0", "undo 1 = NOT");
        }
        for (int n = 1; n <= 16; n++) {
            // Undone in part, then as many deeds again and one more: the first that was left is dropped.
            int first = n < 16 ? 5 : 6;
            run(sentence, TWO, 2).times(20, "tick 1").go("undo " + n + " = " + (20 - n), "told 15 = " + (16 - n)).times(n,
                "tick 2").go("told 15 = 16", "tick 3", "told 15 = 16", "undo 1 = " + (20 + n), "undo 15 = " + first,
                "undo 1 = NOT", "clock 1 0 = " + (20 + 100 * first));
        }
        run(sentence + ", one by one", TWO, 2).times(17, "tick 1").times(16, "undo 1").go("told 12 = 1", "undo 1 = NOT");
        run(sentence + ", by draws", TWO, 2).go("tick 5", "drift 16", "told 15 = 16", "undo 16 = 5", "undo 1 = NOT", "tick 5",
            "drift 15", "told 15 = 16", "undo 16 = 5");
    }

    private static void undoneSinceTextOrImage() {
        run("since the text", TWO, 2).go("tick 1").text(TWO, 2).go("told 15 = 0", "undo 1 = NOT", "tick 2", "undo 1 = 0",
            "undo 1 = NOT");
        run("not since a text with a FAULT", TWO, 2).go("tick 1").text("x", -11).go("told 15 = 1", "undo 1 = 0");
        run("since the IMAGE: keep", TWO, 2).go("tick 1", "keep 1 = 1", "told 15 = 0", "undo 1 = NOT", "tick 2",
            "told 15 = 1", "undo 1 = 1", "undo 1 = NOT");
        run("since the IMAGE: goBack", TWO, 2).go("keep 1 = 1", "tick 1", "goBack 1 = 1", "told 15 = 0", "undo 1 = NOT",
            "tick 2", "undo 1 = 0", "undo 1 = NOT");
        run("not since an IMAGE that there is not", TWO, 2).go("tick 1", "keep 2 = UNKNOWN", "goBack 2 = UNKNOWN",
            "goBack 0 = NOT", "told 15 = 1", "undo 1 = 0");
    }

    private static void seedIsNotUndone() {
        run("THE SEED stays", TWO, 2).go("seed 1", "drift 1", "seed 4 = 2035015474", "drift 1", "undo 2 = 0",
            "seed 0 = 1009760233");
        run("a seed is no deed", TWO, 2).go("tick 1", "seed 8 = 0", "undo 1 = 0", "seed 0 = 8");
    }

    private static void imageNumbers() {
        run("IMAGES 0, 1", TWO, 2).go("keep -1 = UNKNOWN", "keep 2 = UNKNOWN", "keep LEAST = UNKNOWN", "keep MOST = UNKNOWN",
            "goBack -1 = UNKNOWN", "goBack 2 = UNKNOWN", "goBack LEAST = UNKNOWN", "goBack MOST = UNKNOWN", "goBack 0 = NOT",
            "goBack 1 = NOT", "keep 0 = 1", "goBack 1 = NOT", "goBack 0 = 1", "keep 1 = 1", "goBack 1 = 1", "goBack 0 = 1");
        run("NOT: it was not kept", TWO, 2).go("goBack 1 = NOT", "keep 1 = 1", "goBack 0 = NOT", "goBack 1 = 1");
    }

    private static void imagesKeepAll() {
        Run kept = ready("what is so becomes IMAGE 1").go("keep 1 = 1");
        Run gone = ready("what is so becomes IMAGE 1").go("keep 1 = 1");
        for (String deed : DEEDS) {
            gone.go(deed);
        }
        gone.go("seed 12", "drift 9", "goBack 1 = 1");
        due.holds("all of section 1, ALARMS, TIMES, THE SEED", gone.examine().equals(kept.examine()));
        List<Integer> seeds = new ArrayList<>();
        Run x = run("THE SEED of each IMAGE", TWO, 2).go("seed 3", "keep 0", "seed 4", "keep 1", "seed 5", "goBack 0");
        seeds.add(x.call("seed 6"));
        x.go("goBack 1");
        seeds.add(x.call("seed 6"));
        due.holds("THE SEED of each IMAGE", seeds.equals(List.of(3, 4)));
    }

    /** Every way and every AHEAD of eight clocks comes back, by going back and by undoing. */
    private static void imagesOfEightClocks() {
        String eight = "k0 100;k10 90;k20 95;k30 105;k40 110;k50 99;k60 101;k90 102;";
        for (boolean back : new boolean[] {true, false}) {
            Run x = run(back ? "IMAGES keep all of eight" : "UNDONE is all of eight", eight, 8);
            for (int c = 0; c < 8; c++) {
                x.go("lie " + c + " " + (c + 7) % 8 + " " + (c + 1), "error " + c + " " + (c + 7) % 8 + " " + (c + 1));
            }
            x.go("round", back ? "keep 0" : "told 15 = 16");
            int[] ahead = new int[8];
            for (int c = 0; c < 8; c++) {
                ahead[c] = x.call("clock " + c + " 2");
                x.go("lie " + c + " " + (c + 7) % 8 + " 0", "lie " + c + " " + (c + 6) % 8 + " 3");
            }
            for (int c = 0; c < 8 && back; c++) {
                x.go("error " + c + " " + (c + 7) % 8 + " 0", "error " + c + " " + (c + 6) % 8 + " 3");
            }
            x.go(back ? "tick 9" : "undo 1", back ? "round" : "tick 9", back ? "goBack 0 = 1" : "undo 16");
            for (int c = 0; c < 8; c++) {
                x.go("clock " + c + " 2 = " + ahead[c], "heard " + c + " " + (c + 7) % 8 + " 2 = " + (c + 10000),
                    "heard " + c + " " + (c + 7) % 8 + " 1 = " + (c + 21), "heard " + c + " " + (c + 6) % 8 + " 2 = 9999",
                    "heard " + c + " " + (c + 6) % 8 + " 1 = 20");
            }
        }
    }

    private static void imagesOfSixAlarms() {
        Run x = run("IMAGES keep ALARMS, six of them", "k0 100;".repeat(8), 8).go("keep 1");
        for (int a = 0; a < 6; a++) {
            x.go("alarm " + a + " " + (100 * a) + " = " + a);
        }
        x.go("tick 3 = 14", "keep 0", "goBack 1", "told 10 = 0", "told 11 = 0");
        for (int a = 0; a < 6; a++) {
            x.go("alarm " + (a + 2) + " " + (700 + a) + " = " + a);
        }
        x.go("goBack 0 = 1", "told 10 = 6", "told 11 = 15");
        for (int a = 0; a < 6; a++) {
            x.go("alarmAt " + a + " 0 = " + a, "alarmAt " + a + " 1 = " + 100 * a, "alarmAt " + a + " 2 = " + (a < 4 ? 1 : 0));
        }
        x.go("alarm 0 0 = FULL", "tick 1 = 16", "tick 1 = 32");
    }

    private static void imagesAreTwo() {
        run("IMAGES stand apart", TWO, 2).go("keep 0", "tick 1", "keep 1", "tick 1", "goBack 0", "clock 0 0 = 0", "tick 3",
            "goBack 1", "clock 0 0 = 100", "goBack 0", "clock 0 0 = 0", "tick 2", "keep 0", "tick 5", "goBack 0",
            "clock 0 0 = 200", "goBack 1", "clock 0 0 = 100", "told 12 = 1");
        new Run(due, "an IMAGE of no CLOCKS").go("keep 0 = 1", "tick 4", "goBack 0 = 1", "told 12 = 0", "told 0 = 0");
    }

    private static void imagesAreGone() {
        run("IMAGES are gone by a text", TWO, 2).go("keep 0", "keep 1").text("k5 100;", 1).go("goBack 0 = NOT",
            "goBack 1 = NOT", "clock 0 0 = 5", "keep 0 = 1", "goBack 1 = NOT", "goBack 0 = 1");
        run("not by one with a FAULT", TWO, 2).go("keep 0", "keep 1", "tick 1").text("k5 100", -11).go("goBack 1 = 1",
            "clock 0 0 = 0", "goBack 0 = 1");
        run("IMAGES are gone by an empty text", TWO, 2).go("keep 1").text("", 0).go("goBack 1 = NOT", "told 0 = 0");
    }
}
