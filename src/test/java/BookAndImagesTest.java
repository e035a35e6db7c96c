/** Promises 21 to 25: write, tear, seed, keep, goBack. */
public final class BookAndImagesTest {
    private static final Due due = new Due();

    public static void main(String[] args) {
        writing();
        judging();
        tearing();
        seeds();
        keeping();
        goingBack();
        alarmsGoBack();
        due.end();
    }

    private static void writing() {
        LiarClocks x = Due.of("k100 100;k160 101;");
        due.is("2 is no clock", x.write(2, 0), LiarClocks.UNKNOWN);
        due.is("-1 is no clock", x.write(-1, 0), LiarClocks.UNKNOWN);
        for (int k = 1; k <= 20; k++) {
            due.is("write", x.write(k % 2, k == 3 ? Integer.MIN_VALUE : Integer.MAX_VALUE), k);
        }
        due.is("twenty at most", x.write(0, 0), LiarClocks.FULL);
        due.is("UNKNOWN ahead of FULL", x.write(2, 0), LiarClocks.UNKNOWN);
        due.is("entries", x.told(13), 20);
        due.is("no deed", x.told(15), 0);
        due.is("no clocks", new LiarClocks().write(0, 0), LiarClocks.UNKNOWN);
    }

    private static void judging() {
        LiarClocks x = Due.of("k100 100;k160 100;l1;");
        due.is("an empty book", x.told(14), LiarClocks.NONE);
        x.write(0, 100);
        x.write(1, 160);
        x.write(0, 100);
        due.is("all are right", x.told(14), LiarClocks.NONE);
        x.write(0, 101);
        x.write(1, 0);
        due.is("the first that is wrong", x.told(14), 3);
        x.lie(1, 0, -300);
        x.round();
        due.is("it is AIM that is told", x.told(14), 0);
        due.is("0 aims", x.clock(0, 3), 99950);
        x.tear();
        x.write(0, -50);
        due.is("an AIM below 0", x.told(14), LiarClocks.NONE);
        x.stand(0);
        due.is("of one that stands", x.told(14), LiarClocks.NONE);
        x.join(0);
        due.is("behind a joining", x.told(14), 0);
        x.undo(1);
        due.is("undone", x.told(14), LiarClocks.NONE);
    }

    private static void tearing() {
        LiarClocks x = Due.of("k100 100;k160 100;");
        due.is("none", x.tear(), 0);
        x.write(0, 0);
        x.write(0, 0);
        due.is("two", x.tear(), 2);
        due.is("no entries", x.told(13), 0);
        due.is("nothing is wrong", x.told(14), LiarClocks.NONE);
        due.is("a new one", x.write(1, 160), 1);
        due.is("nothing is wrong", x.told(14), LiarClocks.NONE);
    }

    private static void seeds() {
        LiarClocks x = new LiarClocks();
        due.is("0 at first", x.seed(2147483647), 0);
        due.is("the greatest", x.seed(-1), LiarClocks.OUTSIDE);
        due.is("refused", x.seed(0), 2147483647);
        due.is("below", x.seed(Integer.MIN_VALUE), LiarClocks.OUTSIDE);
        due.is("no deed", x.told(15), 0);
        Due.feed(x, "k1 100;");
        x.clocks();
        x.seed(2147483647);
        x.drift(1);
        long seed = 2147483647L;
        for (int k = 0; k < 5; k++) {
            seed = (seed * 1103515245L + 12345L) % 2147483648L;
        }
        due.is("five draws", x.seed(1), seed);
    }

    private static void keeping() {
        LiarClocks x = Due.of("k100 100;k160 101;");
        due.is("keep(-1)", x.keep(-1), LiarClocks.UNKNOWN);
        due.is("keep(2)", x.keep(2), LiarClocks.UNKNOWN);
        x.tick(1);
        due.is("refused: can be undone", x.told(15), 1);
        due.is("keep(1)", x.keep(1), 1);
        due.is("nothing can be undone", x.told(15), 0);
        due.is("undo(1)", x.undo(1), LiarClocks.NOT);
        due.is("0 was not kept", x.goBack(0), LiarClocks.NOT);
        due.is("keep(0)", x.keep(0), 1);
        due.is("no clocks, kept", new LiarClocks().keep(0), 1);
    }

    private static void alarmsGoBack() {
        LiarClocks x = Due.of("k100 100;k160 101;");
        x.alarm(1, 500);
        x.keep(0);
        Due.feed(x, "k");
        x.clocks();
        x.goBack(0);
        x.alarm(0, 700);
        x.undo(1);
        x.alarm(1, 800);
        x.keep(1);
        x.goBack(0);
        x.alarm(0, 900);
        due.is("its clock", x.alarmAt(1, 0), 0);
        due.is("its value", x.alarmAt(1, 1), 900);
        x.goBack(1);
        due.is("its clock in the image", x.alarmAt(1, 0), 1);
        due.is("its value in the image", x.alarmAt(1, 1), 800);
        due.is("the first alarm", x.alarmAt(0, 1), 500);
    }

    private static void goingBack() {
        LiarClocks x = Due.of("k100 100;k160 101;k200 90;f1;s7;");
        x.seed(55);
        x.lie(0, 1, 5);
        x.error(0, 1, 6);
        x.liar(1, true);
        x.stand(2);
        x.alarm(0, 150);
        x.tick(1);
        x.keep(0);
        x.seed(66);
        x.lie(0, 1, -5);
        x.error(0, 1, -6);
        x.liar(1, false);
        x.liar(0, true);
        x.alarm(1, 150);
        x.write(0, 200);
        x.feed('k');
        x.tick(2);
        x.keep(1);
        x.tick(1);
        due.is("goBack(-1)", x.goBack(-1), LiarClocks.UNKNOWN);
        due.is("goBack(2)", x.goBack(2), LiarClocks.UNKNOWN);
        due.is("refused: can be undone", x.told(15), 1);
        due.is("goBack(0)", x.goBack(0), 1);
        int[] want = {3, 1, 7, 1, 2, 4, 1, 0, 0, 0, 1, 1, 1, 1, -1, 0};
        for (int what = 0; what < want.length; what++) {
            due.is("back: told(" + what + ")", x.told(what), want[what]);
        }
        due.is("the value", x.clock(0, 0), 200);
        due.is("the lie", x.heard(0, 1, 2), 10004);
        due.is("the error", x.heard(0, 1, 1), 26);
        due.is("the seed", x.seed(1), 55);
        x.tick(5);
        due.is("again", x.goBack(0), 1);
        due.is("the value again", x.clock(0, 0), 200);
        due.is("the other", x.goBack(1), 1);
        due.is("its value", x.clock(0, 0), 400);
        due.is("its alarms", x.told(10), 2);
        due.is("its seed", x.seed(1), 66);
        due.is("the book is no part of it", x.told(14), 0);
        due.is("fault()", x.fault(), LiarClocks.NONE);
    }
}
