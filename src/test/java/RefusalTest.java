/** "What is refused changes nothing", and "of several the first in this order": every refusal of every call. */
public final class RefusalTest {
    private static final Due due = new Due();
    private static final int[] BEYOND_CLOCKS = {-1, 4, 8, 32, Integer.MIN_VALUE, Integer.MAX_VALUE};

    public static void main(String[] args) {
        feeding();
        feedingWhenFull();
        asking();
        ticking();
        telling();
        lyingAndStanding();
        joining();
        settingAlarms();
        drifting();
        undoing();
        behindAndWithin();
        writing();
        seeding();
        keepingAndGoingBack();
        withoutClocks();
        askedNothingChanges();
        due.end();
    }

    /** Of everything something: liars, one that stands, lies, errors, alarms, entries, deeds, images, half a text. */
    private static Run rich(String sentence) {
        return new Run(due, sentence).text("k100 90;k200 95;k300 110;k50 100;l2;f1;s7;", 4).go("seed 99", "lie 2 0 50",
            "keep 0", "error 0 1 7", "alarm 0 150 = 0", "tick 2", "stand 3 = 1", "keep 1", "alarm 1 400 = 1", "round",
            "write 0 5 = 1", "tick 1", "error 1 0 -3").feed("k7 100;");
    }

    private static void feeding() {
        rich("feed OUTSIDE").changesNothing("feed -1 = OUTSIDE", "feed 256 = OUTSIDE", "feed LEAST = OUTSIDE",
            "feed MOST = OUTSIDE");
    }

    private static void feedingWhenFull() {
        String text = "k7 100;" + " ".repeat(193);
        new Run(due, "feed FULL").feed(text).changesNothing("feed 32 = FULL", "feed 0 = FULL", "feed 255 = FULL",
            "feed -1 = OUTSIDE", "feed 256 = OUTSIDE");
    }

    private static void asking() {
        Run x = rich("told, clock, heard, alarmAt").changesNothing("told -1 = OUTSIDE", "told 16 = OUTSIDE",
            "clock 0 -1 = OUTSIDE", "clock 0 7 = OUTSIDE", "heard 0 1 -1 = OUTSIDE", "heard 0 1 5 = OUTSIDE",
            "alarmAt 0 -1 = OUTSIDE", "alarmAt 0 3 = OUTSIDE", "alarmAt -1 0 = UNKNOWN", "alarmAt 2 0 = UNKNOWN",
            "alarmAt 2 3 = UNKNOWN", "alarmAt -1 -1 = UNKNOWN", "heard 1 1 0 = UNKNOWN", "heard 1 1 5 = UNKNOWN");
        for (int c : BEYOND_CLOCKS) {
            x.changesNothing("clock " + c + " 0 = UNKNOWN", "clock " + c + " 7 = UNKNOWN", "clock " + c + " -1 = UNKNOWN",
                "heard " + c + " 0 0 = UNKNOWN", "heard 0 " + c + " 0 = UNKNOWN", "heard " + c + " 0 5 = UNKNOWN",
                "heard 0 " + c + " -1 = UNKNOWN", "heard " + c + " " + c + " 0 = UNKNOWN");
        }
    }

    private static void ticking() {
        rich("tick OUTSIDE").changesNothing("tick 0 = OUTSIDE", "tick 21 = OUTSIDE", "tick -1 = OUTSIDE",
            "tick LEAST = OUTSIDE", "tick MOST = OUTSIDE");
    }

    private static void telling() {
        Run x = rich("lie, error").changesNothing("lie 2 0 -10000 = OUTSIDE", "lie 2 0 10000 = OUTSIDE",
            "lie 2 0 LEAST = OUTSIDE", "lie 2 0 MOST = OUTSIDE", "error 0 1 -21 = OUTSIDE", "error 0 1 21 = OUTSIDE",
            "error 0 1 LEAST = OUTSIDE", "error 0 1 MOST = OUTSIDE", "lie 2 2 1 = UNKNOWN", "lie 2 2 10000 = UNKNOWN",
            "error 0 0 1 = UNKNOWN", "error 0 0 21 = UNKNOWN");
        for (int c : BEYOND_CLOCKS) {
            x.changesNothing("lie " + c + " 0 1 = UNKNOWN", "lie 2 " + c + " 1 = UNKNOWN", "lie " + c + " 0 10000 = UNKNOWN",
                "lie 2 " + c + " -10000 = UNKNOWN", "lie " + c + " " + c + " 1 = UNKNOWN", "error " + c + " 0 1 = UNKNOWN",
                "error 0 " + c + " 1 = UNKNOWN", "error " + c + " 0 21 = UNKNOWN", "error 0 " + c + " -21 = UNKNOWN");
        }
    }

    private static void lyingAndStanding() {
        Run x = rich("liar, stand").changesNothing("stand 3 = NOT");
        for (int c : BEYOND_CLOCKS) {
            x.changesNothing("liar " + c + " true = UNKNOWN", "liar " + c + " false = UNKNOWN", "stand " + c + " = UNKNOWN");
        }
    }

    private static void joining() {
        Run x = rich("join: it does not STAND").changesNothing("join 0 = NOT", "join 2 = NOT");
        for (int c : BEYOND_CLOCKS) {
            x.changesNothing("join " + c + " = UNKNOWN");
        }
        rich("join: it HEARS too little").go("stand 0 = 2").changesNothing("join 0 = NOT", "join 3 = NOT").go("undo 1", "join 3");
    }

    private static void settingAlarms() {
        Run x = rich("alarm").changesNothing("alarm 0 -1 = OUTSIDE", "alarm 0 1000000 = OUTSIDE", "alarm 0 LEAST = OUTSIDE",
            "alarm 0 MOST = OUTSIDE", "alarm 4 0 = UNKNOWN", "alarm -1 0 = UNKNOWN", "alarm 4 -1 = UNKNOWN",
            "alarm -1 1000000 = UNKNOWN");
        x.go("alarm 0 1 = 2", "alarm 1 1 = 3", "alarm 2 9999 = 4", "alarm 3 0 = 5").changesNothing("alarm 0 0 = FULL",
            "alarm 0 999999 = FULL", "alarm 0 -1 = OUTSIDE", "alarm 0 1000000 = OUTSIDE", "alarm 4 0 = UNKNOWN",
            "alarm -1 -1 = UNKNOWN", "alarm 4 1000000 = UNKNOWN");
    }

    private static void drifting() {
        rich("drift OUTSIDE").changesNothing("drift 0 = OUTSIDE", "drift 17 = OUTSIDE", "drift -1 = OUTSIDE",
            "drift LEAST = OUTSIDE", "drift MOST = OUTSIDE");
    }

    private static void undoing() {
        // Behind the image four deeds were done.
        rich("undo").changesNothing("undo 0 = OUTSIDE", "undo 17 = OUTSIDE", "undo -1 = OUTSIDE", "undo LEAST = OUTSIDE",
            "undo MOST = OUTSIDE", "undo 5 = NOT", "undo 16 = NOT").go("undo 4 = 2").changesNothing("undo 1 = NOT",
            "undo 0 = OUTSIDE", "undo 17 = OUTSIDE");
    }

    private static void behindAndWithin() {
        rich("behind, within").changesNothing("behind -1 = OUTSIDE", "behind 21 = OUTSIDE", "behind LEAST = OUTSIDE",
            "behind MOST = OUTSIDE", "within -1 = OUTSIDE", "within 10000 = OUTSIDE", "within LEAST = OUTSIDE",
            "within MOST = OUTSIDE");
    }

    private static void writing() {
        Run x = rich("write");
        for (int c : BEYOND_CLOCKS) {
            x.changesNothing("write " + c + " 0 = UNKNOWN");
        }
        x.times(19, "write 1 7").changesNothing("write 0 0 = FULL", "write 3 MOST = FULL", "write 4 0 = UNKNOWN",
            "write -1 0 = UNKNOWN");
    }

    private static void seeding() {
        rich("seed OUTSIDE").changesNothing("seed -1 = OUTSIDE", "seed LEAST = OUTSIDE");
    }

    private static void keepingAndGoingBack() {
        rich("keep, goBack").changesNothing("keep -1 = UNKNOWN", "keep 2 = UNKNOWN", "keep LEAST = UNKNOWN",
            "keep MOST = UNKNOWN", "goBack -1 = UNKNOWN", "goBack 2 = UNKNOWN", "goBack LEAST = UNKNOWN",
            "goBack MOST = UNKNOWN");
        new Run(due, "goBack: it was not kept").text("k1 100;k5 100;", 2).go("seed 4", "keep 1", "tick 1",
            "write 0 5").changesNothing("goBack 0 = NOT", "goBack 2 = UNKNOWN", "goBack -1 = UNKNOWN");
    }

    private static void withoutClocks() {
        new Run(due, "without CLOCKS").go("seed 3", "keep 0", "tick 2").changesNothing("clock 0 0 = UNKNOWN",
            "clock 0 7 = UNKNOWN", "heard 0 1 0 = UNKNOWN", "heard 0 0 9 = UNKNOWN", "alarmAt 0 0 = UNKNOWN",
            "alarmAt 0 3 = UNKNOWN", "lie 0 1 0 = UNKNOWN", "lie 0 1 10000 = UNKNOWN", "error 0 1 0 = UNKNOWN",
            "error 0 1 21 = UNKNOWN", "liar 0 true = UNKNOWN", "stand 0 = UNKNOWN", "join 0 = UNKNOWN", "alarm 0 0 = UNKNOWN",
            "alarm 0 -1 = UNKNOWN", "write 0 0 = UNKNOWN", "drift 17 = OUTSIDE", "drift 16 = NONE", "behind 20 = NONE",
            "within 9999 = NONE", "goBack 1 = NOT");
    }

    private static void askedNothingChanges() {
        Run x = rich("ASKED, nothing changes by it").changesNothing("fault = NONE", "behind 0", "behind 1", "behind 20",
            "within 0", "within 50", "within 9999");
        for (int what = 0; what <= 15; what++) {
            x.changesNothing("told " + what);
        }
        for (int what = 0; what <= 6; what++) {
            x.changesNothing("clock 0 " + what, "clock 3 " + what);
        }
        for (int what = 0; what <= 4; what++) {
            x.changesNothing("heard 2 0 " + what, "heard 0 3 " + what);
        }
        for (int what = 0; what <= 2; what++) {
            x.changesNothing("alarmAt 1 " + what);
        }
    }
}
