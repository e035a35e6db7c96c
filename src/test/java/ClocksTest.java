/** Promises 1 to 8: a new object, feed, clocks, fault, told, clock, heard, alarmAt. */
public final class ClocksTest {
    private static final Due due = new Due();

    public static void main(String[] args) {
        constants();
        newObject();
        feedLetters();
        goodTexts();
        faults();
        faultChangesNothing();
        textBeginsAnew();
        textBehindAsking();
        textBehindLongerText();
        toldNumbers();
        mayLie();
        worst();
        clockNumbers();
        heardNumbers();
        rankOfLikeOnes();
        farthest();
        alarmNumbers();
        due.end();
    }

    private static void constants() {
        due.is("NONE", LiarClocks.NONE, -1);
        due.is("UNKNOWN", LiarClocks.UNKNOWN, -1000000001);
        due.is("OUTSIDE", LiarClocks.OUTSIDE, -1000000002);
        due.is("NOT", LiarClocks.NOT, -1000000003);
        due.is("FULL", LiarClocks.FULL, -1000000004);
    }

    private static void newObject() {
        LiarClocks x = new LiarClocks();
        int[] want = {0, 0, 10, 0, 0, 0, 0, -1, -1, -1, 0, 0, 0, 0, -1, 0};
        for (int what = 0; what < want.length; what++) {
            due.is("new: told(" + what + ")", x.told(what), want[what]);
        }
        due.is("new: fault()", x.fault(), LiarClocks.NONE);
        due.is("new: clock(0, 0)", x.clock(0, 0), LiarClocks.UNKNOWN);
        due.is("new: heard(0, 1, 0)", x.heard(0, 1, 0), LiarClocks.UNKNOWN);
        due.is("new: alarmAt(0, 0)", x.alarmAt(0, 0), LiarClocks.UNKNOWN);
        due.is("new: goBack(0)", x.goBack(0), LiarClocks.NOT);
        due.is("new: undo(1)", x.undo(1), LiarClocks.NOT);
        due.is("new: seed(5)", x.seed(5), 0);
    }

    private static void feedLetters() {
        LiarClocks x = new LiarClocks();
        due.is("feed(-1)", x.feed(-1), LiarClocks.OUTSIDE);
        due.is("feed(256)", x.feed(256), LiarClocks.OUTSIDE);
        due.is("feed(0)", x.feed(0), 1);
        due.is("feed(255)", x.feed(255), 2);
        for (int k = 3; k <= 200; k++) {
            due.is("feed(32)", x.feed(32), k);
        }
        due.is("feed at 200", x.feed(32), LiarClocks.FULL);
        due.is("OUTSIDE ahead of FULL", x.feed(256), LiarClocks.OUTSIDE);
        due.is("told(3)", x.told(3), 200);
        due.is("the letter 0", x.clocks(), -11);
        due.is("the letter 0 stands at", x.fault(), 0);
        due.is("feed goes on", x.feed(32), 1);
    }

    private static void good(String text, int count, int strike, int step, int liars) {
        LiarClocks x = new LiarClocks();
        Due.feed(x, text);
        due.is("clocks() of '" + text + "'", x.clocks(), count);
        due.is("fault() of '" + text + "'", x.fault(), LiarClocks.NONE);
        due.is("told(0) of '" + text + "'", x.told(0), count);
        due.is("told(1) of '" + text + "'", x.told(1), strike);
        due.is("told(2) of '" + text + "'", x.told(2), step);
        due.is("told(4) of '" + text + "'", x.told(4), liars);
        due.is("told(3) of '" + text + "'", x.told(3), 0);
    }

    private static void goodTexts() {
        good("", 0, 0, 10, 0);
        good("    ", 0, 0, 10, 0);
        good("f3;s80;", 0, 3, 80, 0);
        good("f0;s0;", 0, 0, 0, 0);
        good("f0003;s0080;", 0, 3, 80, 0);
        good("k0 90;k9999 110;", 2, 0, 10, 0);
        good("  k  0   90  ;  k 9999 0110 ; l 1 ; f 1 ; s 7 ;  ", 2, 1, 7, 2);
        good("k1 100;l0;k2 100;k3 100;l0002;l1;", 3, 0, 10, 7);
        good("k1 90;k1 90;k1 90;k1 90;k1 90;k1 90;k1 90;k1 90;l7;", 8, 0, 10, 128);
        StringBuilder whole = new StringBuilder("k1 90;");
        while (whole.length() < 200) {
            whole.append(' ');
        }
        good(whole.toString(), 1, 0, 10, 0);
    }

    private static void bad(String text, int kind, int place) {
        LiarClocks x = new LiarClocks();
        Due.feed(x, text);
        due.is("clocks() of '" + text + "'", x.clocks(), -10 - kind);
        due.is("fault() of '" + text + "'", x.fault(), place);
        due.is("told(3) of '" + text + "'", x.told(3), 0);
    }

    private static void faults() {
        bad("x", 1, 0);
        bad(";", 1, 0);
        bad("5;", 1, 0);
        bad("12345", 1, 0);
        bad("K1 100;", 1, 0);
        bad("\t", 1, 0);
        bad("k", 1, 1);
        bad("k ", 1, 2);
        bad("k;", 1, 1);
        bad("kk", 1, 1);
        bad("k-1 100;", 1, 1);
        bad("k1", 1, 2);
        bad("k1 ", 1, 3);
        bad("k1;", 1, 2);
        bad("k1 100", 1, 6);
        bad("k1 100 ", 1, 7);
        bad("k1 100 5;", 1, 7);
        bad("k1 100;;", 1, 7);
        bad("k1 100;x", 1, 7);
        bad("k1 100;5", 1, 7);
        bad("l", 1, 1);
        bad("lx", 1, 1);
        bad("f", 1, 1);
        bad("f1", 1, 2);
        bad("f1 1;", 1, 3);
        bad("s;", 1, 1);
        bad("s10s", 1, 3);
        bad("k10000 100;", 2, 1);
        bad("k00001 100;", 2, 1);
        bad("k1100100;", 2, 1);
        bad("k12345", 2, 1);
        bad("k1 89;", 2, 3);
        bad("k1 8", 2, 3);
        bad("k1 111;", 2, 3);
        bad("k1 89x", 2, 3);
        bad("k1 00100;", 2, 3);
        bad("k1 00 100;", 2, 3);
        bad("f4;", 2, 1);
        bad("f 12x", 2, 2);
        bad("s81;", 2, 1);
        bad("s99999", 2, 1);
        bad("l0;", 2, 1);
        bad("l0;k1 100;", 2, 1);
        bad("k1 100;l1;", 2, 8);
        bad("k1 100;l0;l00000;", 2, 11);
        bad("k1 90;k1 90;k1 90;k1 90;k1 90;k1 90;k1 90;k1 90;k", 3, 48);
        bad("k1 90;k1 90;k1 90;k1 90;k1 90;k1 90;k1 90;k1 90;  kx", 3, 50);
        bad("k1 90;k1 90;k1 90;k1 90;k1 90;k1 90;k1 90;k1 90;l8;", 2, 49);
        bad("k1 100;l0;l0;", 4, 11);
        bad("k1 100;l0;l 0", 4, 12);
        bad("f1;f9;", 4, 3);
        bad("f1;fx", 4, 3);
        bad("s1;s", 4, 3);
        bad("f0;s1; f0;", 4, 7);
    }

    private static void faultChangesNothing() {
        LiarClocks x = Due.of("k100 100;k200 90;f1;s5;l1;");
        x.keep(1);
        x.tick(2);
        x.alarm(0, 5000);
        x.write(0, 300);
        x.seed(77);
        Due.feed(x, "k1 100;k");
        due.is("a fault", x.clocks(), -11);
        due.is("its place", x.fault(), 8);
        due.is("clocks stay", x.told(0), 2);
        due.is("F stays", x.told(1), 1);
        due.is("STEP stays", x.told(2), 5);
        due.is("the text is empty", x.told(3), 0);
        due.is("alarms stay", x.told(10), 1);
        due.is("times stay", x.told(12), 2);
        due.is("the book stays", x.told(13), 1);
        due.is("what can be undone stays", x.told(15), 2);
        due.is("values stay", x.clock(0, 0), 300);
        due.is("the image stays", x.goBack(1), 1);
        due.is("from the image", x.clock(0, 0), 100);
        Due.feed(x, " ");
        due.is("no clocks", x.clocks(), 0);
        due.is("no fault", x.fault(), LiarClocks.NONE);
    }

    private static void textBeginsAnew() {
        LiarClocks x = Due.of("k100 100;k200 90;f1;s5;l1;");
        x.seed(77);
        x.lie(0, 1, 5);
        x.error(0, 1, 5);
        x.stand(0);
        x.alarm(0, 5);
        x.write(0, 3);
        x.keep(0);
        x.keep(1);
        x.tick(4);
        x.round();
        Due.feed(x, "k7 100;k8 100;");
        due.is("clocks()", x.clocks(), 2);
        int[] want = {2, 0, 10, 0, 0, 0, 3, 1, 0, 0, 0, 0, 0, 0, -1, 0};
        for (int what = 0; what < want.length; what++) {
            due.is("anew: told(" + what + ")", x.told(what), want[what]);
        }
        due.is("no lie", x.heard(0, 1, 2), 9999);
        due.is("no error", x.heard(0, 1, 1), 20);
        due.is("nothing ahead", x.clock(1, 2), 100000);
        due.is("image 0 is gone", x.goBack(0), LiarClocks.NOT);
        due.is("image 1 is gone", x.goBack(1), LiarClocks.NOT);
        due.is("the seed stays", x.seed(0), 77);
        due.is("an empty text", x.clocks(), 0);
        due.is("no clocks then", x.told(0), 0);
    }

    private static void textBehindAsking() {
        LiarClocks x = Due.of("k100 100;k200 90;k300 100;l2;f1;s5;");
        x.lie(0, 1, 5);
        x.error(0, 1, 5);
        x.alarm(0, 5);
        x.tick(4);
        x.stand(0);
        x.stand(2);
        x.liar(1, true);
        // Asking must leave nothing behind that a new text could take over.
        x.behind(3);
        x.within(3);
        Due.feed(x, "f0;s9;k7 100;k9 100;k50 100;");
        due.is("clocks()", x.clocks(), 3);
        int[] want = {3, 0, 9, 0, 0, 0, 7, 43, 0, 0, 0, 0, 0, 0, -1, 0};
        for (int what = 0; what < want.length; what++) {
            due.is("behind asking: told(" + what + ")", x.told(what), want[what]);
        }
        due.is("no lie", x.heard(0, 1, 2), 9999);
        due.is("no error", x.heard(0, 1, 1), 20);
        due.is("asked of the new ones", x.behind(1), 0);
        Due.feed(x, "s8;f1;k1 100;k5 100;");
        due.is("words once a text", x.clocks(), 2);
        due.is("nothing ahead of 0", x.clock(0, 2), 100000);
        due.is("nothing ahead of 1", x.clock(1, 2), 100000);
    }

    private static void textBehindLongerText() {
        LiarClocks x = Due.of("k100 100;");
        Due.feed(x, "k1 10");
        due.is("letters of the text ahead are gone", x.clocks(), -12);
        due.is("at the number", x.fault(), 3);
        Due.feed(x, "k100 100");
        due.is("the end is the end", x.clocks(), -11);
        due.is("at the end", x.fault(), 8);
        Due.feed(x, "k10 ");
        due.is("the end is the end", x.clocks(), -11);
        due.is("at the end", x.fault(), 4);
    }

    private static void toldNumbers() {
        LiarClocks x = Due.of("k100 100;k160 101;k220 99;k400 100;l3;f1;");
        x.feed('z');
        x.alarm(2, 0);
        x.alarm(3, 9999);
        x.alarm(1, 1);
        x.write(0, 100);
        x.write(1, 161);
        x.write(2, 0);
        x.stand(2);
        x.tick(3);
        int[] want = {4, 1, 10, 1, 8, 4, 3, 63, 63, 0, 3, 5, 3, 3, 0, 5};
        for (int what = 0; what < want.length; what++) {
            due.is("told(" + what + ")", x.told(what), want[what]);
        }
        due.is("told(-1)", x.told(-1), LiarClocks.OUTSIDE);
        due.is("told(16)", x.told(16), LiarClocks.OUTSIDE);
        due.is("told(MIN)", x.told(Integer.MIN_VALUE), LiarClocks.OUTSIDE);
        due.is("APART of one", Due.of("k5 100;").told(7), 0);
        due.is("APART of none", Due.of("k5 100;l0;").told(7), LiarClocks.NONE);
    }

    private static void mayLie() {
        String[] clocks = {"k1 90;", "k1 90;k1 90;k1 90;", "k1 90;k1 90;k1 90;k1 90;",
            "k1 90;k1 90;k1 90;k1 90;k1 90;k1 90;", "k1 90;k1 90;k1 90;k1 90;k1 90;k1 90;k1 90;"};
        int[] most = {0, 0, 1, 1, 2};
        for (int k = 0; k < clocks.length; k++) {
            for (int f = 0; f <= 3; f++) {
                due.is("MAY LIE", Due.of(clocks[k] + "f" + f + ";").told(9), Math.min(f, most[k]));
            }
        }
        LiarClocks x = Due.of("k1 90;k1 90;k1 90;k1 90;f1;l0;");
        due.is("of four", x.told(9), 1);
        x.stand(3);
        due.is("of three", x.told(9), 0);
        x.stand(2);
        x.stand(1);
        due.is("of one", x.told(9), 0);
        x.stand(0);
        due.is("all stand", x.told(9), LiarClocks.NONE);
    }

    private static void worst() {
        LiarClocks x = Due.of("k100 100;k160 101;k220 99;k400 100;l3;f1;");
        due.is("WORST", x.told(8), 60);
        x.error(0, 2, -20);
        // 0 may come to 190 at most (160, 220); 2 hears 80, 160, 220 and comes to 120 at least.
        due.is("WORST with an error", x.told(8), 70);
        x.lie(3, 0, 9999);
        due.is("WORST does not ask for lies as told", x.told(8), 70);
        due.is("APART is untouched", x.told(7), 120);
        x.stand(3);
        // One that stands and lies tells nothing: 0 hears 100 twice, 160, 220.
        due.is("WORST, the liar stands", x.told(8), 60);
        LiarClocks y = Due.of("k0 100;k9 100;k50 100;l2;");
        due.is("boundless", y.told(8), 1000000);
        y.liar(1, true);
        due.is("one alone is never apart", y.told(8), 0);
        y.liar(0, true);
        due.is("no true one", y.told(8), LiarClocks.NONE);
        LiarClocks z = Due.of("k0 100;k9 100;k50 100;k51 100;l2;l3;f2;");
        due.is("all struck: aims stay", z.told(8), 9);
        LiarClocks first = Due.of("k100 100;k160 101;k220 99;k400 100;l3;f1;");
        first.error(2, 0, 20);
        // 0 comes to 200 at most (160, 240), the others to 190; all come to 130 at least.
        due.is("WORST, the first is the highest", first.told(8), 70);
        LiarClocks one = Due.of("k0 100;k9 100;k50 100;k51 100;l2;l3;f1;");
        due.is("two lie, one is struck", one.told(8), 1000000);
    }

    private static void clockNumbers() {
        LiarClocks x = Due.of("k100 100;k161 110;k400 90;l2;s80;");
        x.round();
        x.stand(1);
        int[] zero = {100, 100, 100030, 100130, 0, 0, 100130};
        int[] one = {161, 110, 99969, 100130, 0, 1, -1};
        int[] two = {400, 90, 100000, 100400, 1, 0, -1};
        for (int what = 0; what <= 6; what++) {
            due.is("clock(0, " + what + ")", x.clock(0, what), zero[what]);
            due.is("clock(1, " + what + ")", x.clock(1, what), one[what]);
            due.is("clock(2, " + what + ")", x.clock(2, what), two[what]);
        }
        due.is("clock(-1, 0)", x.clock(-1, 0), LiarClocks.UNKNOWN);
        due.is("clock(3, 0)", x.clock(3, 0), LiarClocks.UNKNOWN);
        due.is("clock(0, -1)", x.clock(0, -1), LiarClocks.OUTSIDE);
        due.is("clock(0, 7)", x.clock(0, 7), LiarClocks.OUTSIDE);
        due.is("UNKNOWN ahead of OUTSIDE", x.clock(3, 7), LiarClocks.UNKNOWN);
        due.is("MIDDLE, all struck", Due.of("k1 100;k5 100;f1;").clock(0, 6), LiarClocks.NONE);
        due.is("MIDDLE, one is left", Due.of("k1 100;k5 100;k6 100;f1;").clock(0, 6), 100005);
        LiarClocks low = Due.of("k0 100;k1 100;l1;");
        low.lie(1, 0, -5);
        due.is("MIDDLE is rounded down below 0", low.clock(0, 6), 99997);
    }

    private static void heardNumbers() {
        LiarClocks x = Due.of("k100 100;k161 110;k400 90;l2;");
        x.error(0, 1, -7);
        x.lie(2, 1, 44);
        x.lie(0, 1, -3);
        int[] zeroOne = {100093, 13, 9996, 0, -1};
        int[] twoOne = {100205, 20, 10043, 2, 0};
        int[] oneTwo = {100161, 20, 9999, 1, -1};
        for (int what = 0; what <= 4; what++) {
            due.is("heard(0, 1, " + what + ")", x.heard(0, 1, what), zeroOne[what]);
            due.is("heard(2, 1, " + what + ")", x.heard(2, 1, what), twoOne[what]);
            due.is("heard(1, 2, " + what + ")", x.heard(1, 2, what), oneTwo[what]);
        }
        x.stand(2);
        due.is("a liar that stands tells nothing", x.heard(2, 1, 0), 100161);
        due.is("its lie stays", x.heard(2, 1, 2), 10043);
        due.is("no FARTHEST for it", x.heard(2, 1, 4), LiarClocks.NONE);
        due.is("one that stands hears", x.heard(0, 2, 0), 100100);
        x.liar(2, false);
        due.is("one that stands tells nothing", x.heard(2, 1, 0), 100161);
        due.is("heard(0, 0, 0)", x.heard(0, 0, 0), LiarClocks.UNKNOWN);
        due.is("heard(3, 0, 0)", x.heard(3, 0, 0), LiarClocks.UNKNOWN);
        due.is("heard(0, 3, 0)", x.heard(0, 3, 0), LiarClocks.UNKNOWN);
        due.is("heard(-1, 0, 0)", x.heard(-1, 0, 0), LiarClocks.UNKNOWN);
        due.is("heard(0, -1, 0)", x.heard(0, -1, 0), LiarClocks.UNKNOWN);
        due.is("heard(0, 1, -1)", x.heard(0, 1, -1), LiarClocks.OUTSIDE);
        due.is("heard(0, 1, 5)", x.heard(0, 1, 5), LiarClocks.OUTSIDE);
        due.is("UNKNOWN ahead of OUTSIDE", x.heard(1, 1, 5), LiarClocks.UNKNOWN);
    }

    private static void rankOfLikeOnes() {
        LiarClocks x = Due.of("k50 100;k50 100;k50 100;k40 100;");
        due.is("the lowest", x.heard(3, 1, 3), 0);
        due.is("the least number first", x.heard(0, 1, 3), 1);
        due.is("itself is between", x.heard(2, 1, 3), 3);
        x.stand(3);
        due.is("one that stands has a place", x.heard(3, 1, 3), 3);
    }

    private static void farthest() {
        LiarClocks x = Due.of("k100 100;k160 101;k220 99;k400 100;l3;f1;");
        due.is("up", x.heard(3, 0, 4), 19998);
        due.is("of like ones the first", x.heard(3, 1, 4), 0);
        due.is("down", x.heard(3, 2, 4), 0);
        due.is("the lie is not told by asking", x.heard(3, 2, 2), 9999);
        LiarClocks struck = Due.of("k100 100;k160 101;l1;f1;");
        due.is("all struck", struck.heard(1, 0, 4), 0);
        // 0 hears 0, 9000 (the true one) and two liars; the other liar tells -9999.
        LiarClocks two = Due.of("k0 100;k9000 100;k0 100;k0 100;l2;l3;");
        two.lie(3, 0, -9999);
        // By -9999: (-9999 + 9000) / 2 = -500. By 0 the same. By 9999: 0.
        due.is("the other's lie as told", two.heard(2, 0, 4), 0);
        two.lie(3, 0, 0);
        // By -9999: -500. By 0: 4500. By 9999: 4999.
        due.is("from its aim", two.heard(2, 0, 4), 19998);
        two.error(1, 0, 20);
        two.lie(3, 0, 9999);
        // By -9999: 0. By 0 and by 9999: 4999.
        due.is("0 ahead of 9999", two.heard(2, 0, 4), 9999);
        due.is("not for one that lies", two.heard(2, 3, 4), LiarClocks.NONE);
        due.is("not of one that is true", two.heard(1, 0, 4), LiarClocks.NONE);
    }

    private static void alarmNumbers() {
        LiarClocks x = Due.of("k100 100;k160 101;");
        due.is("none yet", x.alarmAt(0, 0), LiarClocks.UNKNOWN);
        x.alarm(1, 160);
        x.alarm(0, 101);
        int[][] want = {{1, 160, 1}, {0, 101, 0}};
        for (int a = 0; a < 2; a++) {
            for (int what = 0; what < 3; what++) {
                due.is("alarmAt(" + a + ", " + what + ")", x.alarmAt(a, what), want[a][what]);
            }
        }
        x.tick(1);
        due.is("rung by a tick", x.alarmAt(1, 2), 1);
        due.is("alarmAt(-1, 0)", x.alarmAt(-1, 0), LiarClocks.UNKNOWN);
        due.is("alarmAt(2, 0)", x.alarmAt(2, 0), LiarClocks.UNKNOWN);
        due.is("alarmAt(0, -1)", x.alarmAt(0, -1), LiarClocks.OUTSIDE);
        due.is("alarmAt(0, 3)", x.alarmAt(0, 3), LiarClocks.OUTSIDE);
        due.is("UNKNOWN ahead of OUTSIDE", x.alarmAt(2, 3), LiarClocks.UNKNOWN);
    }
}
