import java.util.ArrayList;
import java.util.List;

/**
 * One object of the class, driven by lines such as "tick 20 = 0" or "tick 0 = OUTSIDE"; a line without '=' takes any
 * answer. It counts its calls, for nothing is promised behind the 512th, and keeps its lines, so that a twin can be made.
 */
final class Run {
    private static final int MOST_CALLS = 512;

    private final Due due;
    private final String sentence;
    private final LiarClocks x = new LiarClocks();
    private final List<String> lines = new ArrayList<>();
    private int calls = 0;

    Run(Due due, String sentence) {
        this.due = due;
        this.sentence = sentence;
    }

    Run go(String... more) {
        for (String line : more) {
            lines.add(line);
            int cut = line.indexOf('=');
            int got = call((cut < 0 ? line : line.substring(0, cut)).trim());
            if (cut >= 0) {
                due.is(sentence + ": " + line.substring(0, cut).trim(), got, number(line.substring(cut + 1).trim()));
            }
        }
        return this;
    }

    Run times(int n, String line) {
        for (int k = 0; k < n; k++) {
            go(line);
        }
        return this;
    }

    Run feed(String text) {
        for (int k = 0; k < text.length(); k++) {
            go("feed " + (int) text.charAt(k));
        }
        return this;
    }

    /** Feeds a text and lets it become clocks; its answer is due. */
    Run text(String text, int answer) {
        return feed(text).go("clocks = " + answer);
    }

    /** Every line is answered as due and leaves all as it was: a twin that was not asked it goes on alike. */
    Run changesNothing(String... asked) {
        for (String line : asked) {
            Run with = twin().go(line);
            Run without = twin();
            due.is(sentence + ": fault() behind " + line, with.call("fault"), without.call("fault"));
            List<Integer> got = with.examine();
            List<Integer> want = without.examine();
            due.is(sentence + ": answers behind " + line, got.size(), want.size());
            for (int k = 0; k < Math.min(got.size(), want.size()); k++) {
                due.is(sentence + ": answer " + k + " behind " + line, got.get(k), want.get(k));
            }
            go(line);
        }
        return this;
    }

    Run twin() {
        Run twin = new Run(due, sentence);
        for (String line : lines) {
            twin.go(line);
        }
        return twin;
    }

    /** All that can be found out, at last by undoing, going back and reading the text: the object is spent then. */
    List<Integer> examine() {
        List<Integer> all = new ArrayList<>();
        int count = look(all);
        for (int j = 0; j < count && count <= 4; j++) {
            for (int i = 0; i < count; i++) {
                for (int what = 0; what <= 4 && i != j; what++) {
                    all.add(call("heard " + j + " " + i + " " + what));
                }
            }
        }
        for (int undone = 0; undone < 17; undone++) {
            all.add(call("undo 1"));
            for (int what : new int[] {4, 5, 7, 11, 15}) {
                all.add(call("told " + what));
            }
        }
        all.add(call("seed 1"));
        for (int image = 0; image < 2; image++) {
            all.add(call("goBack " + image));
            look(all);
            all.add(call("seed 2"));
        }
        all.add(call("clocks"));
        all.add(call("fault"));
        look(all);
        return all;
    }

    private int look(List<Integer> all) {
        for (int what = 0; what <= 15; what++) {
            all.add(call("told " + what));
        }
        int count = call("told 0");
        for (int c = 0; c < count; c++) {
            all.add(call("clock " + c + " 0"));
            all.add(call("clock " + c + " 2"));
        }
        int alarms = call("told 10");
        for (int a = 0; a < alarms; a++) {
            all.add(call("alarmAt " + a + " 0"));
            all.add(call("alarmAt " + a + " 1"));
        }
        return count;
    }

    private static int number(String word) {
        return switch (word) {
            case "NONE" -> LiarClocks.NONE;
            case "UNKNOWN" -> LiarClocks.UNKNOWN;
            case "OUTSIDE" -> LiarClocks.OUTSIDE;
            case "NOT" -> LiarClocks.NOT;
            case "FULL" -> LiarClocks.FULL;
            case "LEAST" -> Integer.MIN_VALUE;
            case "MOST" -> Integer.MAX_VALUE;
            case "true" -> 1;
            case "false" -> 0;
            default -> Integer.parseInt(word);
        };
    }

    int call(String line) {
        calls++;
        if (calls > MOST_CALLS) {
            throw new IllegalStateException("a test's own run is too long: " + sentence);
        }
        String[] words = line.split(" +");
        int[] n = new int[3];
        for (int k = 1; k < words.length; k++) {
            n[k - 1] = number(words[k]);
        }
        return switch (words[0]) {
            case "feed" -> x.feed(n[0]);
            case "clocks" -> x.clocks();
            case "fault" -> x.fault();
            case "told" -> x.told(n[0]);
            case "clock" -> x.clock(n[0], n[1]);
            case "heard" -> x.heard(n[0], n[1], n[2]);
            case "alarmAt" -> x.alarmAt(n[0], n[1]);
            case "tick" -> x.tick(n[0]);
            case "round" -> x.round();
            case "lie" -> x.lie(n[0], n[1], n[2]);
            case "error" -> x.error(n[0], n[1], n[2]);
            case "liar" -> x.liar(n[0], n[1] == 1);
            case "stand" -> x.stand(n[0]);
            case "join" -> x.join(n[0]);
            case "alarm" -> x.alarm(n[0], n[1]);
            case "drift" -> x.drift(n[0]);
            case "undo" -> x.undo(n[0]);
            case "behind" -> x.behind(n[0]);
            case "within" -> x.within(n[0]);
            case "write" -> x.write(n[0], n[1]);
            case "tear" -> x.tear();
            case "seed" -> x.seed(n[0]);
            case "keep" -> x.keep(n[0]);
            case "goBack" -> x.goBack(n[0]);
            default -> throw new IllegalStateException("no such call: " + line);
        };
    }
}
