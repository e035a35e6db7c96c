/** Promises 9 to 18: tick, round, lie, error, liar, stand, join, alarm, drift, undo. */
public final class DeedsTest {
    private static final Due due = new Due();

    public static void main(String[] args) {
        ticks();
        ticksRing();
        rounds();
        roundsAllStruck();
        lies();
        errors();
        liars();
        standing();
        joining();
        joiningRefused();
        joiningRings();
        alarms();
        drifting();
        driftingRefused();
        undoing();
        undoingRing();
        eightClocks();
        due.end();
    }

    private static void ticks() {
        LiarClocks x = Due.of("k100 90;k161 110;k500 100;l2;s80;");
        x.round();
        x.stand(1);
        due.is("tick(1)", x.tick(1), 0);
        due.is("by its rate and 30 ahead", x.clock(0, 0), 220);
        due.is("nothing is ahead", x.clock(0, 2), 100000);
        due.is("one stands", x.clock(1, 0), 161);
        due.is("its ahead stays", x.clock(1, 2), 99969);
        due.is("a liar goes", x.clock(2, 0), 600);
        due.is("tick(20)", x.tick(20), 0);
        due.is("twenty", x.clock(0, 0), 220 + 1800);
        due.is("times", x.told(12), 21);
        due.is("one deed each", x.told(15), 4);
        due.is("tick(0)", x.tick(0), LiarClocks.OUTSIDE);
        due.is("tick(21)", x.tick(21), LiarClocks.OUTSIDE);
        due.is("tick(-1)", x.tick(-1), LiarClocks.OUTSIDE);
        due.is("refused: no deed", x.told(15), 4);
        LiarClocks slow = Due.of("k0 100;k100 100;s0;");
        slow.round();
        slow.tick(1);
        due.is("STEP 0", slow.clock(0, 0), 100);
        due.is("all stays ahead", slow.clock(0, 2), 100050);
        LiarClocks back = Due.of("k0 100;k100 100;s7;");
        back.round();
        back.tick(1);
        due.is("STEP 7 back", back.clock(1, 0), 193);
        due.is("what is left", back.clock(1, 2), 99957);
        back.liar(1, true);
        back.tick(1);
        due.is("one that came to lie goes on by steps", back.clock(1, 0), 286);
        LiarClocks none = new LiarClocks();
        due.is("no clocks tick", none.tick(3), 0);
        due.is("their times", none.told(12), 3);
    }

    private static void ticksRing() {
        LiarClocks x = Due.of("k0 100;k0 90;");
        x.alarm(0, 100);
        x.alarm(0, 101);
        x.alarm(1, 91);
        x.alarm(1, 0);
        due.is("0 is there", x.tick(1), 1);
        due.is("1 and 2, 0 not again", x.tick(1), 6);
        due.is("none again", x.tick(20), 0);
        due.is("rung", x.told(11), 15);
        LiarClocks y = Due.of("k0 100;");
        y.alarm(0, 2000);
        y.alarm(0, 2001);
        due.is("by twenty ticks", y.tick(20), 1);
        due.is("undone", y.undo(1), 0);
        due.is("not rung then", y.told(11), 0);
        due.is("and rings again", y.tick(20), 1);
    }

    private static void rounds() {
        LiarClocks x = Due.of("k100 100;k160 101;k220 99;k400 100;l3;f1;");
        due.is("round()", x.round(), 60);
        due.is("values stay", x.clock(0, 0), 100);
        due.is("0 aims", x.clock(0, 3), 100130);
        due.is("1 aims", x.clock(1, 3), 100160);
        due.is("2 aims", x.clock(2, 3), 100190);
        due.is("a liar aims at what it did", x.clock(3, 3), 100400);
        due.is("no times", x.told(12), 0);
        due.is("a deed", x.told(15), 1);
        x.stand(2);
        x.error(1, 0, 20);
        // 0 hears 130 (itself, 2 stands, 3 tells 0) and 180: 130 is left twice.
        due.is("round() with one that stands", x.round(), 30);
        due.is("its aim stays", x.clock(2, 3), 100190);
        due.is("none is true", Due.of("k1 100;l0;").round(), LiarClocks.NONE);
        due.is("no clocks", new LiarClocks().round(), LiarClocks.NONE);
        LiarClocks low = Due.of("k0 100;k1 100;");
        low.round();
        due.is("rounded down", low.clock(1, 2), 99999);
        due.is("one alone", Due.of("k7 100;").round(), 0);
        LiarClocks lone = Due.of("k7 100;k8 100;l1;");
        lone.lie(1, 0, -9999);
        lone.round();
        // 7 and 7 - 9999 together are -9985, half of it rounded down is -4993.
        due.is("below 0", lone.clock(0, 3), 100000 - 4993);
    }

    private static void roundsAllStruck() {
        LiarClocks x = Due.of("k0 100;k100 100;k30 100;f1;");
        x.round();
        due.is("one is left", x.clock(0, 3), 100030);
        LiarClocks y = Due.of("k0 100;k100 100;f1;");
        due.is("all struck", y.round(), 100);
        due.is("ahead stays", y.clock(0, 2), 100000);
        LiarClocks z = Due.of("k0 100;k100 100;k50 100;k20 100;k9 100;f3;");
        due.is("more than all struck", z.round(), 100);
        due.is("a deed all the same", z.told(15), 1);
    }

    private static void lies() {
        LiarClocks x = Due.of("k0 100;k100 100;");
        due.is("lie", x.lie(0, 1, -9999), 9999);
        due.is("lie", x.lie(0, 1, 9999), 0);
        due.is("the other way", x.lie(1, 0, 5), 9999);
        due.is("lie", x.lie(0, 1, 0), 19998);
        due.is("deeds", x.told(15), 4);
        due.is("10000", x.lie(0, 1, 10000), LiarClocks.OUTSIDE);
        due.is("-10000", x.lie(0, 1, -10000), LiarClocks.OUTSIDE);
        due.is("one twice", x.lie(1, 1, 0), LiarClocks.UNKNOWN);
        due.is("j", x.lie(2, 1, 0), LiarClocks.UNKNOWN);
        due.is("i", x.lie(0, 2, 0), LiarClocks.UNKNOWN);
        due.is("below", x.lie(-1, 0, 0), LiarClocks.UNKNOWN);
        due.is("UNKNOWN ahead of OUTSIDE", x.lie(0, 0, 10000), LiarClocks.UNKNOWN);
        due.is("refused: no deed", x.told(15), 4);
        due.is("true ones do not lie", x.heard(1, 0, 0), 100100);
    }

    private static void errors() {
        LiarClocks x = Due.of("k0 100;k100 100;");
        due.is("error", x.error(0, 1, -20), 20);
        due.is("error", x.error(0, 1, 20), 0);
        due.is("the other way", x.error(1, 0, 5), 20);
        due.is("error", x.error(0, 1, 1), 40);
        due.is("heard", x.heard(0, 1, 0), 100001);
        due.is("deeds", x.told(15), 4);
        due.is("21", x.error(0, 1, 21), LiarClocks.OUTSIDE);
        due.is("-21", x.error(0, 1, -21), LiarClocks.OUTSIDE);
        due.is("one twice", x.error(1, 1, 0), LiarClocks.UNKNOWN);
        due.is("j", x.error(2, 1, 0), LiarClocks.UNKNOWN);
        due.is("i", x.error(0, 2, 0), LiarClocks.UNKNOWN);
        due.is("UNKNOWN ahead of OUTSIDE", x.error(0, -1, 21), LiarClocks.UNKNOWN);
        due.is("refused: no deed", x.told(15), 4);
    }

    private static void liars() {
        LiarClocks x = Due.of("k0 100;k100 100;k5 100;l1;");
        due.is("two", x.liar(2, true), 2);
        due.is("again", x.liar(2, true), 2);
        due.is("a deed all the same", x.told(15), 2);
        x.stand(2);
        due.is("one", x.liar(1, false), 1);
        due.is("those", x.told(4), 4);
        due.is("none", x.liar(2, false), 0);
        due.is("3", x.liar(3, true), LiarClocks.UNKNOWN);
        due.is("-1", x.liar(-1, false), LiarClocks.UNKNOWN);
        due.is("no deed", x.told(15), 5);
    }

    private static void standing() {
        LiarClocks x = Due.of("k0 100;k100 100;l1;");
        due.is("one", x.stand(0), 1);
        due.is("again", x.stand(0), LiarClocks.NOT);
        due.is("two", x.stand(1), 2);
        due.is("2", x.stand(2), LiarClocks.UNKNOWN);
        due.is("-1", x.stand(-1), LiarClocks.UNKNOWN);
        due.is("deeds", x.told(15), 2);
        due.is("those", x.told(5), 3);
        due.is("none is true", x.told(6), 0);
    }

    private static void joining() {
        LiarClocks x = Due.of("k0 100;k100 100;k205 100;k400 100;l3;");
        x.round();
        x.stand(0);
        // 0 aims at 102 (0 and 205 together, halved); 1 too; 2 too; 3 tells 102 to 0.
        x.lie(3, 0, 50);
        x.error(1, 0, -4);
        due.is("0 aims", x.clock(0, 3), 100102);
        // It hears 98, 102, 152: the middle of 98 and 152.
        due.is("join(0)", x.join(0), 125);
        due.is("nothing ahead", x.clock(0, 2), 100000);
        due.is("it goes", x.clock(0, 5), 0);
        due.is("a deed", x.told(15), 5);
        x.undo(1);
        due.is("undone: it stands", x.clock(0, 5), 1);
        due.is("undone: its value", x.clock(0, 0), 0);
        LiarClocks later = Due.of("k0 100;k100 100;k206 100;");
        later.stand(2);
        due.is("join(2) hears the first", later.join(2), 50);
        x.stand(1);
        // 1 stands: 102 and 152 are heard.
        due.is("join(0) beside one that stands", x.join(0), 127);
    }

    private static void joiningRefused() {
        LiarClocks x = Due.of("k0 100;k100 100;k200 100;k300 100;f1;");
        due.is("it does not stand", x.join(0), LiarClocks.NOT);
        due.is("4", x.join(4), LiarClocks.UNKNOWN);
        due.is("-1", x.join(-1), LiarClocks.UNKNOWN);
        x.stand(0);
        x.stand(1);
        due.is("two are too little", x.join(0), LiarClocks.NOT);
        due.is("no deed", x.told(15), 2);
        x.undo(1);
        due.is("three are enough", x.join(0), 200);
        LiarClocks alone = Due.of("k0 100;");
        alone.stand(0);
        due.is("it hears none", alone.join(0), LiarClocks.NOT);
        LiarClocks liar = Due.of("k0 100;k3 100;l1;");
        liar.stand(0);
        liar.lie(1, 0, -9999);
        due.is("by a liar alone", liar.join(0), -9999);
        due.is("its value", liar.clock(0, 0), -9999);
    }

    private static void joiningRings() {
        LiarClocks x = Due.of("k0 100;k100 100;");
        x.stand(0);
        x.alarm(0, 100);
        x.alarm(0, 101);
        due.is("not yet", x.told(11), 0);
        x.join(0);
        due.is("rung", x.told(11), 1);
        due.is("a tick does not ring it again", x.tick(1), 2);
        LiarClocks back = Due.of("k500 100;k100 100;");
        back.alarm(0, 400);
        back.stand(0);
        back.join(0);
        due.is("its value is less", back.clock(0, 0), 100);
        due.is("it stays rung", back.told(11), 1);
        due.is("and does not ring again", back.tick(10), 0);
    }

    private static void alarms() {
        LiarClocks x = Due.of("k500 100;k100 100;");
        due.is("0", x.alarm(0, 500), 0);
        due.is("1", x.alarm(0, 501), 1);
        due.is("2", x.alarm(1, 0), 2);
        due.is("3", x.alarm(1, 999999), 3);
        due.is("at once", x.told(11), 5);
        due.is("1000000", x.alarm(1, 1000000), LiarClocks.OUTSIDE);
        due.is("-1", x.alarm(1, -1), LiarClocks.OUTSIDE);
        due.is("2 is no clock", x.alarm(2, 0), LiarClocks.UNKNOWN);
        due.is("-1 is no clock", x.alarm(-1, -1), LiarClocks.UNKNOWN);
        due.is("4", x.alarm(1, 5), 4);
        due.is("5", x.alarm(1, 5), 5);
        due.is("six at most", x.alarm(1, 5), LiarClocks.FULL);
        due.is("OUTSIDE ahead of FULL", x.alarm(1, -1), LiarClocks.OUTSIDE);
        due.is("UNKNOWN ahead of FULL", x.alarm(2, 5), LiarClocks.UNKNOWN);
        due.is("deeds", x.told(15), 6);
        x.undo(3);
        due.is("three are left", x.told(10), 3);
        due.is("those rung", x.told(11), 5);
        due.is("3 again", x.alarm(0, 7), 3);
    }

    private static long next(long seed) {
        return (seed * 1103515245L + 12345L) % (1L << 31);
    }

    private static void drifting() {
        LiarClocks x = Due.of("k500 100;k100 95;k900 105;k300 100;f1;s30;l2;");
        LiarClocks y = Due.of("k500 100;k100 95;k900 105;k300 100;f1;s30;l2;");
        long seed = 987654321;
        x.seed((int) seed);
        int deeds = 0;
        for (int n = 1; n <= 16; n++) {
            int answer = x.drift(n);
            for (int k = 0; k < n; k++) {
                long[] drawn = new long[5];
                int[] of = {4, 4, 2001, 41, 3};
                for (int d = 0; d < 5; d++) {
                    seed = next(seed);
                    drawn[d] = seed / 65536 % of[d];
                }
                y.lie((int) drawn[0], (int) drawn[1], (int) drawn[2] - 1000);
                y.error((int) drawn[0], (int) drawn[1], (int) drawn[3] - 20);
                if (drawn[4] == 0) {
                    y.round();
                } else {
                    y.tick(1);
                }
                deeds++;
            }
            due.is("drift(" + n + ")", answer, y.told(7));
            due.is("what can be undone", x.told(15), Math.min(deeds, 16));
            for (int c = 0; c < 4; c++) {
                for (int what = 0; what <= 6; what++) {
                    due.is("clock by draws", x.clock(c, what), y.clock(c, what));
                }
                for (int i = 0; i < 4; i++) {
                    for (int what = 0; what <= 4; what++) {
                        due.is("heard by draws", x.heard(c, i, what), y.heard(c, i, what));
                    }
                }
            }
        }
        due.is("times", x.told(12), y.told(12));
        due.is("the seed", x.seed(0), seed);
    }

    private static void driftingRefused() {
        LiarClocks x = Due.of("k500 100;k100 95;");
        due.is("drift(0)", x.drift(0), LiarClocks.OUTSIDE);
        due.is("drift(17)", x.drift(17), LiarClocks.OUTSIDE);
        due.is("drift(-1)", x.drift(-1), LiarClocks.OUTSIDE);
        due.is("no deed", x.told(15), 0);
        due.is("no draw", x.seed(9), 0);
        LiarClocks none = new LiarClocks();
        none.seed(9);
        due.is("no clocks drift", none.drift(16), LiarClocks.NONE);
        due.is("no deed without clocks", none.told(15), 0);
        due.is("no draw without clocks", none.seed(0), 9);
        due.is("none is true", Due.of("k1 100;l0;").drift(3), LiarClocks.NONE);
        LiarClocks rung = Due.of("k0 100;");
        rung.alarm(0, 1);
        rung.drift(16);
        due.is("a time by draws rings", rung.told(11), 1);
    }

    private static void undoing() {
        LiarClocks x = Due.of("k0 100;k100 100;k200 100;s80;");
        x.seed(5);
        x.tick(3);
        x.round();
        x.lie(0, 1, 7);
        x.error(0, 1, 7);
        x.liar(1, true);
        x.stand(2);
        x.alarm(0, 5);
        x.tick(2);
        x.join(2);
        due.is("nine", x.told(15), 9);
        due.is("undo(0)", x.undo(0), LiarClocks.OUTSIDE);
        due.is("undo(17)", x.undo(17), LiarClocks.OUTSIDE);
        due.is("undo(-1)", x.undo(-1), LiarClocks.OUTSIDE);
        due.is("undo(10)", x.undo(10), LiarClocks.NOT);
        due.is("the joining", x.undo(1), 5);
        due.is("stands again", x.told(5), 4);
        due.is("the ticks", x.undo(1), 3);
        due.is("the alarm", x.undo(1), 3);
        due.is("no alarm", x.told(10), 0);
        due.is("none rung", x.told(11), 0);
        due.is("the standing", x.undo(1), 3);
        due.is("none stands", x.told(5), 0);
        due.is("the liar", x.undo(1), 3);
        due.is("none lies", x.told(4), 0);
        due.is("the error and the lie", x.undo(2), 3);
        due.is("no error", x.heard(0, 1, 1), 20);
        due.is("no lie", x.heard(0, 1, 2), 9999);
        due.is("round and ticks", x.undo(2), 0);
        due.is("nothing ahead", x.clock(0, 2), 100000);
        due.is("the value", x.clock(0, 0), 0);
        due.is("no more", x.undo(1), LiarClocks.NOT);
        due.is("the seed stays", x.seed(0), 5);
    }

    private static void eightClocks() {
        LiarClocks x = Due.of("k0 90;k100 91;k200 92;k300 93;k400 94;k500 95;k600 96;k700 97;f3;s80;");
        due.is("all hear alike", x.behind(1), 0);
        due.is("within", x.within(0), 1);
        due.is("WORST", x.told(8), 0);
        x.liar(7, true);
        due.is("the last lies: FARTHEST", x.heard(7, 0, 4), 19998);
        due.is("its rank", x.heard(7, 0, 3), 1);
        // 0 hears 0, 0, 100 .. 600 and aims at 250, 6 hears 0 .. 500, 600, 600 and aims at 350.
        due.is("round()", x.round(), 100);
        due.is("tick(1)", x.tick(1), 0);
        due.is("the first", x.clock(0, 0), 170);
        due.is("the last", x.clock(7, 0), 797);
        due.is("stand(7)", x.stand(7), 1);
        // It hears the seven aims 340, 341, 342, 393, 444, 445, 446 and takes the fourth.
        due.is("join(7)", x.join(7), 393);
        due.is("alarm", x.alarm(7, 400), 0);
        due.is("it rings", x.tick(1), 1);
        due.is("drift", x.drift(16) >= 0 ? 1 : 0, 1);
        due.is("undone", x.undo(16), 2);
    }

    private static void undoingRing() {
        LiarClocks x = Due.of("k0 100;k100 100;");
        for (int k = 0; k < 37; k++) {
            x.tick(1);
        }
        x.write(0, 3700);
        due.is("sixteen are kept", x.told(15), 16);
        due.is("undo(5)", x.undo(5), 32);
        due.is("eleven are left", x.told(15), 11);
        due.is("undo(12)", x.undo(12), LiarClocks.NOT);
        due.is("nothing changed", x.told(12), 32);
        x.tick(20);
        due.is("undo(12)", x.undo(12), 21);
        due.is("the value", x.clock(0, 0), 2100);
        due.is("the book stays", x.told(13), 1);
        due.is("and is wrong now", x.told(14), 0);
        x.seed(3);
        x.drift(4);
        due.is("each of the times is a deed", x.told(15), 4);
        x.undo(4);
        due.is("values by draws undone", x.clock(0, 0), 2100);
        due.is("the seed by draws stays", x.seed(3) != 3 ? 1 : 0, 1);
        due.is("asking is no deed", x.behind(20), 0);
        due.is("nothing can be undone", x.told(15), 0);
    }
}
