import java.util.Random;

/** Runs of at most 512 calls, drawn by a fixed seed, each answered by the class and by PlainClocks. */
public final class ModelTest {
    private static final int RUNS = 1500;
    private static final int CALLS = 512;
    private static final int[] ODD = {-1, Integer.MIN_VALUE, Integer.MAX_VALUE, 8, 9, 16, 17, 21, 256, 10000, -10000, 1000000};
    private static final Due due = new Due();

    private final Random random;
    private final LiarClocks x = new LiarClocks();
    private final PlainClocks y = new PlainClocks();
    private int calls = 0;

    private ModelTest(long seed) {
        random = new Random(seed);
    }

    public static void main(String[] args) {
        for (int run = 0; run < RUNS && !due.anyWrong(); run++) {
            new ModelTest(run).go();
        }
        due.end();
    }

    private void same(String call, int got, int want) {
        calls++;
        due.is(call, got, want);
    }

    private int upTo(int n) {
        return random.nextInt(n);
    }

    /** Mostly least .. most, now and then just beyond it or far out. */
    private int number(int least, int most) {
        int kind = upTo(20);
        if (kind == 0) {
            return least - 1;
        }
        if (kind == 1) {
            return most + 1;
        }
        if (kind == 2) {
            return ODD[upTo(ODD.length)];
        }
        if (kind == 3) {
            return least;
        }
        return kind == 4 ? most : least + upTo(most - least + 1);
    }

    private int someClock() {
        int count = Math.max(1, x.told(0));
        return upTo(25) == 0 ? number(0, 8) : upTo(count);
    }

    private void feed(String text) {
        for (int k = 0; k < text.length() && calls < CALLS; k++) {
            same("feed", x.feed(text.charAt(k)), y.feed(text.charAt(k)));
        }
        same("clocks() of '" + text + "'", x.clocks(), y.clocks());
        same("fault() of '" + text + "'", x.fault(), y.fault());
    }

    private String text() {
        StringBuilder b = new StringBuilder();
        int count = upTo(10) == 0 ? upTo(10) : 1 + upTo(8);
        int spread = new int[] {1, 30, 500, 10000}[upTo(4)];
        for (int c = 0; c < count; c++) {
            b.append('k').append(upTo(spread)).append(' ').append(90 + upTo(21)).append(';');
        }
        if (upTo(4) > 0) {
            b.append('f').append(upTo(Math.min(4, count / 2 + 2))).append(';');
        }
        if (upTo(2) > 0) {
            b.append('s').append(upTo(81)).append(';');
        }
        for (int c = 0; c < count; c++) {
            if (upTo(4) == 0) {
                b.append('l').append(c).append(';');
            }
        }
        for (int spoil = upTo(6) - 3; spoil > 0 && b.length() > 0; spoil--) {
            spoil(b);
        }
        return b.toString();
    }

    private void spoil(StringBuilder b) {
        String letters = "klfs; 0123456789kkff;;  x";
        char letter = letters.charAt(upTo(letters.length()));
        int at = upTo(b.length());
        int kind = upTo(4);
        if (kind == 0) {
            b.deleteCharAt(at);
        } else if (kind == 1) {
            b.setCharAt(at, letter);
        } else if (kind == 2) {
            b.setLength(at);
        } else {
            b.insert(at, letter);
        }
    }

    private void go() {
        for (int k = upTo(4); k >= 0; k--) {
            feed(text());
        }
        while (calls < CALLS) {
            if (upTo(150) == 0) {
                feed(text());
            } else if (upTo(3) > 0) {
                deed();
            } else {
                ask();
            }
        }
    }

    private void deed() {
        int a = someClock(), b = someClock();
        int kind = upTo(20);
        switch (kind) {
            case 0, 1, 2 -> { int n = number(1, 20); same("tick(" + n + ")", x.tick(n), y.tick(n)); }
            case 3, 4 -> same("round()", x.round(), y.round());
            case 5, 6 -> { int v = upTo(2) == 0 ? number(-9999, 9999) : number(-60, 60); same("lie", x.lie(a, b, v), y.lie(a, b, v)); }
            case 7, 8 -> { int v = number(-20, 20); same("error", x.error(a, b, v), y.error(a, b, v)); }
            case 9 -> { boolean is = upTo(2) == 0; same("liar", x.liar(a, is), y.liar(a, is)); }
            case 10 -> same("stand", x.stand(a), y.stand(a));
            case 11, 12 -> same("join", x.join(a), y.join(a));
            case 13 -> { int v = upTo(3) == 0 ? number(0, 999999) : x.clock(a, 0) + upTo(3000); same("alarm", x.alarm(a, v), y.alarm(a, v)); }
            case 14 -> { int n = number(1, 16); same("drift(" + n + ")", x.drift(n), y.drift(n)); }
            case 15 -> { int n = upTo(2) == 0 ? number(1, 16) : 1 + upTo(3); same("undo(" + n + ")", x.undo(n), y.undo(n)); }
            case 16 -> { int v = upTo(3) == 0 ? number(0, 5000) : x.clock(a, 3) - 100000; same("write", x.write(a, v), y.write(a, v)); }
            case 17 -> { if (upTo(5) == 0) { same("tear()", x.tear(), y.tear()); } else { int v = upTo(9) == 0 ? -5 : random.nextInt() >>> 1; same("seed", x.seed(v), y.seed(v)); } }
            case 18 -> { int i = number(0, 1); same("keep(" + i + ")", x.keep(i), y.keep(i)); }
            default -> { int i = number(0, 1); same("goBack(" + i + ")", x.goBack(i), y.goBack(i)); }
        }
    }

    private void ask() {
        int a = someClock(), b = someClock();
        switch (upTo(7)) {
            case 0, 1 -> { int what = number(0, 15); same("told(" + what + ")", x.told(what), y.told(what)); }
            case 2 -> { int what = number(0, 6); same("clock(.., " + what + ")", x.clock(a, what), y.clock(a, what)); }
            case 3 -> { int what = number(0, 4); same("heard(.., " + what + ")", x.heard(a, b, what), y.heard(a, b, what)); }
            case 4 -> { int n = number(0, 5), what = number(0, 2); same("alarmAt", x.alarmAt(n, what), y.alarmAt(n, what)); }
            case 5 -> { int n = number(0, 20); same("behind(" + n + ")", x.behind(n), y.behind(n)); }
            default -> { int n = upTo(2) == 0 ? number(0, 9999) : upTo(40); same("within(" + n + ")", x.within(n), y.within(n)); }
        }
        if (upTo(12) == 0) {
            askAll();
        }
    }

    private void askAll() {
        for (int what = 0; what <= 15; what++) {
            same("told(" + what + ")", x.told(what), y.told(what));
        }
        int count = x.told(0);
        for (int c = 0; c < count; c++) {
            for (int what = 0; what <= 6; what++) {
                same("clock(" + c + ", " + what + ")", x.clock(c, what), y.clock(c, what));
            }
            for (int i = 0; i < count; i++) {
                for (int what = 0; what <= 4; what++) {
                    same("heard(" + c + ", " + i + ", " + what + ")", x.heard(c, i, what), y.heard(c, i, what));
                }
            }
        }
    }
}
