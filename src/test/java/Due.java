/** Counts answers that are not as due; every test of the project ends by end(). */
final class Due {
    private int wrong = 0;
    private int asked = 0;

    void is(String call, long got, long want) {
        asked++;
        if (got != want) {
            wrong++;
            if (wrong <= 40) {
                System.out.println(call + " answered " + got + ", due is " + want);
            }
        }
    }

    void holds(String what, boolean so) {
        is(what, so ? 1 : 0, 1);
    }

    boolean anyWrong() {
        return wrong > 0;
    }

    void end() {
        System.out.println(wrong == 0 ? asked + " answers are as due" : wrong + " of " + asked + " answers are not as due");
        if (wrong != 0) {
            System.exit(1);
        }
    }

    static void feed(LiarClocks x, String text) {
        for (int k = 0; k < text.length(); k++) {
            x.feed(text.charAt(k));
        }
    }

    static LiarClocks of(String text) {
        LiarClocks x = new LiarClocks();
        feed(x, text);
        int answer = x.clocks();
        if (answer < 0) {
            throw new IllegalStateException("a test's own text has a fault: " + text);
        }
        return x;
    }
}
