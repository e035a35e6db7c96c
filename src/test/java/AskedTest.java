/** Promises 19 and 20: behind, within. */
public final class AskedTest {
    private static final Due due = new Due();

    public static void main(String[] args) {
        behind();
        behindIsAsRounds();
        within();
        withinTwenty();
        nothingChanges();
        due.end();
    }

    private static void behind() {
        LiarClocks x = Due.of("k100 100;k160 101;k220 99;k400 100;l3;f1;");
        int[] want = {120, 60, 30, 15, 7};
        for (int n = 0; n < want.length; n++) {
            due.is("behind(" + n + ")", x.behind(n), want[n]);
        }
        due.is("behind(20)", x.behind(20), 1);
        due.is("behind(-1)", x.behind(-1), LiarClocks.OUTSIDE);
        due.is("behind(21)", x.behind(21), LiarClocks.OUTSIDE);
        due.is("no clocks", new LiarClocks().behind(3), LiarClocks.NONE);
        due.is("none is true", Due.of("k1 100;l0;").behind(0), LiarClocks.NONE);
        due.is("OUTSIDE without clocks", new LiarClocks().behind(21), LiarClocks.OUTSIDE);
    }

    private static void behindIsAsRounds() {
        LiarClocks x = Due.of("k100 100;k1600 101;k220 99;k4000 100;k77 100;l3;f1;");
        x.lie(3, 0, 900);
        x.lie(3, 1, -900);
        x.error(0, 1, 20);
        x.error(1, 0, -20);
        int[] asked = new int[21];
        for (int n = 0; n <= 20; n++) {
            asked[n] = x.behind(n);
        }
        for (int n = 1; n <= 20; n++) {
            due.is("round " + n, x.round(), asked[n]);
        }
    }

    private static void within() {
        LiarClocks x = Due.of("k100 100;k160 101;k220 99;k400 100;l3;f1;");
        due.is("within(120)", x.within(120), 0);
        due.is("within(119)", x.within(119), 1);
        due.is("within(60)", x.within(60), 1);
        due.is("within(59)", x.within(59), 2);
        due.is("within(1)", x.within(1), 6);
        due.is("within(0)", x.within(0), LiarClocks.NONE);
        due.is("within(9999)", x.within(9999), 0);
        due.is("within(-1)", x.within(-1), LiarClocks.OUTSIDE);
        due.is("within(10000)", x.within(10000), LiarClocks.OUTSIDE);
        due.is("one alone", Due.of("k5 100;").within(0), 0);
        due.is("none is true", Due.of("k5 100;l0;").within(0), LiarClocks.NONE);
        due.is("none is true, at the most", Due.of("k5 100;l0;").within(9999), LiarClocks.NONE);
        due.is("no clocks", new LiarClocks().within(5), LiarClocks.NONE);
        due.is("all struck", Due.of("k0 100;k9 100;f1;").within(8), LiarClocks.NONE);
        // All hear alike and strike 0 and 9999.
        LiarClocks alike = Due.of("k0 100;k9999 100;k5 100;k6 100;k7 100;f1;");
        due.is("all aim at 6", alike.within(0), 1);
        // The liar pulls 0 up and 1 down: 0 aims at 1005, 1 at -995, and so on.
        LiarClocks pulled = Due.of("k0 100;k10 100;k5 100;l2;");
        pulled.lie(2, 0, 2000);
        pulled.lie(2, 1, -2000);
        due.is("within at first", pulled.within(10), 0);
        due.is("never closer", pulled.within(9), LiarClocks.NONE);
    }

    private static void withinTwenty() {
        LiarClocks x = Due.of("k0 100;k0 100;k0 100;k0 100;l3;f1;");
        x.stand(0);
        for (int k = 0; k < 263; k++) {
            x.tick(20);
        }
        // 0 joins where it stood, for all others lie at that time and tell its own AIM.
        x.liar(1, true);
        x.liar(2, true);
        due.is("join(0)", x.join(0), 0);
        x.liar(1, false);
        x.liar(2, false);
        // Each round halves what they are apart, and 526000 is more than 2 to the 19.
        due.is("APART", x.told(7), 526000);
        due.is("behind(19)", x.behind(19), 2);
        due.is("behind(20)", x.behind(20), 1);
        due.is("within(2)", x.within(2), 19);
        due.is("within(1)", x.within(1), 20);
        due.is("within(0)", x.within(0), LiarClocks.NONE);
        due.is("within(9999)", x.within(9999), 6);
    }

    private static void nothingChanges() {
        LiarClocks x = Due.of("k100 100;k160 101;k220 99;k400 100;l3;f1;");
        x.tick(1);
        x.feed('k');
        x.behind(20);
        x.within(0);
        x.told(8);
        x.heard(3, 0, 4);
        due.is("APART", x.told(7), 119);
        due.is("VALUE", x.clock(0, 0), 200);
        due.is("AHEAD", x.clock(0, 2), 100000);
        due.is("TIMES", x.told(12), 1);
        due.is("deeds", x.told(15), 1);
        due.is("letters", x.told(3), 1);
    }
}
