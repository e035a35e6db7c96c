import java.util.ArrayDeque;
import java.util.ArrayList;
import java.util.Collections;
import java.util.Deque;
import java.util.HashSet;
import java.util.List;
import java.util.Set;
import java.util.TreeSet;

/** The document once more, written another way: by lists and by trying out, with no thought of room or speed. */
final class PlainClocks {
    static final int NONE = -1, UNKNOWN = -1000000001, OUTSIDE = -1000000002, NOT = -1000000003, FULL = -1000000004;

    static final class Clock {
        int value, rate, ahead;
        boolean lies, stands;

        int aim() {
            return value + ahead;
        }

        boolean isTrue() {
            return !lies && !stands;
        }
    }

    static final class Alarm {
        int clock, value;
        boolean rung;
    }

    static final class World {
        final List<Clock> clocks = new ArrayList<>();
        final List<Alarm> alarms = new ArrayList<>();
        final int[][] lie = new int[8][8];
        final int[][] error = new int[8][8];
        int f = 0, step = 10, times = 0;

        World copy() {
            World w = new World();
            for (Clock c : clocks) {
                Clock d = new Clock();
                d.value = c.value;
                d.rate = c.rate;
                d.ahead = c.ahead;
                d.lies = c.lies;
                d.stands = c.stands;
                w.clocks.add(d);
            }
            for (Alarm a : alarms) {
                Alarm b = new Alarm();
                b.clock = a.clock;
                b.value = a.value;
                b.rung = a.rung;
                w.alarms.add(b);
            }
            for (int j = 0; j < 8; j++) {
                w.lie[j] = lie[j].clone();
                w.error[j] = error[j].clone();
            }
            w.f = f;
            w.step = step;
            w.times = times;
            return w;
        }

        int hear(int j, int i) {
            Clock teller = clocks.get(j);
            int own = clocks.get(i).aim();
            if (j == i || teller.stands) {
                return own;
            }
            if (teller.lies) {
                return own + lie[j][i];
            }
            return teller.aim() + error[j][i];
        }

        List<Integer> hearAll(int i) {
            List<Integer> all = new ArrayList<>();
            for (int j = 0; j < clocks.size(); j++) {
                all.add(hear(j, i));
            }
            return all;
        }

        /** Null, if all would be struck. */
        Integer middle(List<Integer> heard) {
            List<Integer> left = new ArrayList<>(heard);
            for (int k = 0; k < f; k++) {
                if (!left.isEmpty()) {
                    left.remove(Collections.min(left));
                }
                if (!left.isEmpty()) {
                    left.remove(Collections.max(left));
                }
            }
            if (left.isEmpty()) {
                return null;
            }
            return (Collections.min(left) + Collections.max(left)) >> 1;
        }

        void round() {
            World old = copy();
            for (int i = 0; i < clocks.size(); i++) {
                Integer middle = old.middle(old.hearAll(i));
                if (clocks.get(i).isTrue() && middle != null) {
                    clocks.get(i).ahead = middle - clocks.get(i).value;
                }
            }
        }

        int ring() {
            int set = 0;
            for (int a = 0; a < alarms.size(); a++) {
                Alarm alarm = alarms.get(a);
                if (!alarm.rung && clocks.get(alarm.clock).value >= alarm.value) {
                    alarm.rung = true;
                    set += 1 << a;
                }
            }
            return set;
        }

        int tick() {
            for (Clock c : clocks) {
                if (c.stands) {
                    continue;
                }
                c.value += c.rate;
                for (int k = 0; k < step && c.ahead != 0; k++) {
                    int one = c.ahead > 0 ? 1 : -1;
                    c.value += one;
                    c.ahead -= one;
                }
            }
            times++;
            return ring();
        }

        int apart() {
            TreeSet<Integer> aims = new TreeSet<>();
            for (Clock c : clocks) {
                if (c.isTrue()) {
                    aims.add(c.aim());
                }
            }
            return aims.isEmpty() ? NONE : aims.last() - aims.first();
        }

        /** Every middle that i can get, if those that lie tell each of these. */
        Set<Integer> reachable(int i, List<Integer> tells) {
            List<List<Integer>> ways = new ArrayList<>();
            ways.add(new ArrayList<>());
            for (int j = 0; j < clocks.size(); j++) {
                Clock teller = clocks.get(j);
                boolean free = teller.lies && !teller.stands;
                List<List<Integer>> more = new ArrayList<>();
                for (List<Integer> way : ways) {
                    for (int told : free ? tells : List.of(hear(j, i))) {
                        List<Integer> next = new ArrayList<>(way);
                        next.add(told);
                        more.add(next);
                    }
                }
                ways = more;
            }
            Set<Integer> middles = new HashSet<>();
            for (List<Integer> way : ways) {
                Integer middle = middle(way);
                middles.add(middle == null ? clocks.get(i).aim() : middle);
            }
            return middles;
        }

        int worstBy(int big) {
            List<Set<Integer>> reach = new ArrayList<>();
            for (int i = 0; i < clocks.size(); i++) {
                if (clocks.get(i).isTrue()) {
                    reach.add(reachable(i, List.of(-big, clocks.get(i).aim(), big)));
                }
            }
            if (reach.isEmpty()) {
                return NONE;
            }
            int worst = 0;
            for (int a = 0; a < reach.size(); a++) {
                for (int b = 0; b < a; b++) {
                    for (int m : reach.get(a)) {
                        for (int n : reach.get(b)) {
                            worst = Math.max(worst, Math.abs(m - n));
                        }
                    }
                }
            }
            return worst;
        }

        int worst() {
            int once = worstBy(300000000);
            return once == worstBy(400000000) ? once : 1000000;
        }

        int farthest(int j, int i) {
            int best = -9999;
            int far = -1;
            int aim = clocks.get(i).aim();
            for (int v : new int[] {-9999, 0, 9999}) {
                World w = copy();
                w.lie[j][i] = v;
                Integer middle = w.middle(w.hearAll(i));
                if (middle != null && Math.abs(middle - aim) > far) {
                    far = Math.abs(middle - aim);
                    best = v;
                }
            }
            return best;
        }
    }

    private World now = new World();
    private final Deque<World> past = new ArrayDeque<>();
    private final World[] images = new World[2];
    private final long[] imageSeeds = new long[2];
    private final List<int[]> book = new ArrayList<>();
    private String text = "";
    private int fault = NONE;
    private long seed = 0;

    private boolean no(int c) {
        return c < 0 || c >= now.clocks.size();
    }

    private void deed() {
        past.addLast(now.copy());
        if (past.size() > 16) {
            past.removeFirst();
        }
    }

    int feed(int letter) {
        if (letter < 0 || letter > 255) {
            return OUTSIDE;
        }
        if (text.length() == 200) {
            return FULL;
        }
        text += (char) letter;
        return text.length();
    }

    int clocks() {
        PlainText read = new PlainText(text);
        text = "";
        fault = read.place;
        if (read.kind != 0) {
            return -10 - read.kind;
        }
        now = read.world;
        past.clear();
        book.clear();
        images[0] = null;
        images[1] = null;
        return now.clocks.size();
    }

    int fault() {
        return fault;
    }

    int told(int what) {
        int lies = 0, stands = 0, trues = 0, rung = 0, going = 0;
        for (int c = 0; c < now.clocks.size(); c++) {
            lies += now.clocks.get(c).lies ? 1 << c : 0;
            stands += now.clocks.get(c).stands ? 1 << c : 0;
            trues += now.clocks.get(c).isTrue() ? 1 << c : 0;
            going += now.clocks.get(c).stands ? 0 : 1;
        }
        for (int a = 0; a < now.alarms.size(); a++) {
            rung += now.alarms.get(a).rung ? 1 << a : 0;
        }
        int mayLie = NONE;
        for (int m = 0; m <= now.f; m++) {
            if (3 * m + 1 <= going) {
                mayLie = m;
            }
        }
        int wrong = NONE;
        for (int e = book.size() - 1; e >= 0; e--) {
            if (no(book.get(e)[0]) || now.clocks.get(book.get(e)[0]).aim() != book.get(e)[1]) {
                wrong = e;
            }
        }
        if (what < 0 || what > 15) {
            return OUTSIDE;
        }
        int worst = what == 8 ? now.worst() : 0;
        return new int[] {now.clocks.size(), now.f, now.step, text.length(), lies, stands, trues, now.apart(), worst,
            mayLie, now.alarms.size(), rung, now.times, book.size(), wrong, past.size()}[what];
    }

    int clock(int c, int what) {
        if (no(c)) {
            return UNKNOWN;
        }
        if (what < 0 || what > 6) {
            return OUTSIDE;
        }
        Clock k = now.clocks.get(c);
        Integer middle = now.middle(now.hearAll(c));
        int six = k.isTrue() && middle != null ? middle + 100000 : NONE;
        return new int[] {k.value, k.rate, k.ahead + 100000, k.aim() + 100000, k.lies ? 1 : 0, k.stands ? 1 : 0, six}[what];
    }

    int heard(int j, int i, int what) {
        if (no(j) || no(i) || j == i) {
            return UNKNOWN;
        }
        if (what == 0) {
            return now.hear(j, i) + 100000;
        }
        if (what == 1) {
            return now.error[j][i] + 20;
        }
        if (what == 2) {
            return now.lie[j][i] + 9999;
        }
        if (what == 3) {
            List<int[]> order = new ArrayList<>();
            for (int k = 0; k < now.clocks.size(); k++) {
                order.add(new int[] {now.hear(k, i), k});
            }
            // A stable sort leaves like ones in the order of their numbers.
            order.sort((a, b) -> Integer.compare(a[0], b[0]));
            for (int place = 0; place < order.size(); place++) {
                if (order.get(place)[1] == j) {
                    return place;
                }
            }
        }
        if (what == 4) {
            boolean asked = now.clocks.get(i).isTrue() && now.clocks.get(j).lies && !now.clocks.get(j).stands;
            return asked ? now.farthest(j, i) + 9999 : NONE;
        }
        return OUTSIDE;
    }

    int alarmAt(int a, int what) {
        if (a < 0 || a >= now.alarms.size()) {
            return UNKNOWN;
        }
        Alarm alarm = now.alarms.get(a);
        return what == 0 ? alarm.clock : what == 1 ? alarm.value : what == 2 ? (alarm.rung ? 1 : 0) : OUTSIDE;
    }

    int tick(int n) {
        if (n < 1 || n > 20) {
            return OUTSIDE;
        }
        deed();
        int set = 0;
        for (int k = 0; k < n; k++) {
            set += now.tick();
        }
        return set;
    }

    int round() {
        deed();
        now.round();
        return now.apart();
    }

    int lie(int j, int i, int v) {
        return tell(j, i, v, 9999, true);
    }

    int error(int j, int i, int v) {
        return tell(j, i, v, 20, false);
    }

    private int tell(int j, int i, int v, int most, boolean isLie) {
        if (no(j) || no(i) || j == i) {
            return UNKNOWN;
        }
        if (v < -most || v > most) {
            return OUTSIDE;
        }
        deed();
        int[][] table = isLie ? now.lie : now.error;
        int was = table[j][i];
        table[j][i] = v;
        return was + most;
    }

    int liar(int c, boolean is) {
        if (no(c)) {
            return UNKNOWN;
        }
        deed();
        now.clocks.get(c).lies = is;
        return (int) now.clocks.stream().filter(k -> k.lies).count();
    }

    int stand(int c) {
        if (no(c)) {
            return UNKNOWN;
        }
        if (now.clocks.get(c).stands) {
            return NOT;
        }
        deed();
        now.clocks.get(c).stands = true;
        return (int) now.clocks.stream().filter(k -> k.stands).count();
    }

    int join(int c) {
        if (no(c)) {
            return UNKNOWN;
        }
        List<Integer> heard = new ArrayList<>();
        for (int j = 0; j < now.clocks.size(); j++) {
            if (j != c && !now.clocks.get(j).stands) {
                heard.add(now.hear(j, c));
            }
        }
        if (!now.clocks.get(c).stands || heard.size() < 2 * now.f + 1) {
            return NOT;
        }
        deed();
        Clock k = now.clocks.get(c);
        k.value = now.middle(heard);
        k.ahead = 0;
        k.stands = false;
        now.ring();
        return k.value;
    }

    int alarm(int c, int v) {
        if (no(c)) {
            return UNKNOWN;
        }
        if (v < 0 || v > 999999) {
            return OUTSIDE;
        }
        if (now.alarms.size() == 6) {
            return FULL;
        }
        deed();
        Alarm a = new Alarm();
        a.clock = c;
        a.value = v;
        a.rung = now.clocks.get(c).value >= v;
        now.alarms.add(a);
        return now.alarms.size() - 1;
    }

    private int draw(int n) {
        seed = (seed * 1103515245L + 12345L) % 2147483648L;
        return (int) (seed / 65536 % n);
    }

    int drift(int n) {
        if (n < 1 || n > 16) {
            return OUTSIDE;
        }
        for (int k = 0; k < n && !now.clocks.isEmpty(); k++) {
            deed();
            int j = draw(now.clocks.size());
            int i = draw(now.clocks.size());
            int lie = draw(2001) - 1000;
            int error = draw(41) - 20;
            int kind = draw(3);
            if (j != i) {
                now.lie[j][i] = lie;
                now.error[j][i] = error;
            }
            if (kind == 0) {
                now.round();
            } else {
                now.tick();
            }
        }
        return now.apart();
    }

    int undo(int n) {
        if (n < 1 || n > 16) {
            return OUTSIDE;
        }
        if (n > past.size()) {
            return NOT;
        }
        for (int k = 0; k < n; k++) {
            now = past.removeLast();
        }
        return now.times;
    }

    int behind(int n) {
        if (n < 0 || n > 20) {
            return OUTSIDE;
        }
        World w = now.copy();
        for (int k = 0; k < n; k++) {
            w.round();
        }
        return w.apart();
    }

    int within(int b) {
        if (b < 0 || b > 9999) {
            return OUTSIDE;
        }
        for (int n = 0; n <= 20; n++) {
            int apart = behind(n);
            if (apart != NONE && apart <= b) {
                return n;
            }
        }
        return NONE;
    }

    int write(int c, int v) {
        if (no(c)) {
            return UNKNOWN;
        }
        if (book.size() == 20) {
            return FULL;
        }
        book.add(new int[] {c, v});
        return book.size();
    }

    int tear() {
        int had = book.size();
        book.clear();
        return had;
    }

    int seed(int v) {
        if (v < 0) {
            return OUTSIDE;
        }
        int was = (int) seed;
        seed = v;
        return was;
    }

    int keep(int i) {
        if (i != 0 && i != 1) {
            return UNKNOWN;
        }
        images[i] = now.copy();
        imageSeeds[i] = seed;
        past.clear();
        return 1;
    }

    int goBack(int i) {
        if (i != 0 && i != 1) {
            return UNKNOWN;
        }
        if (images[i] == null) {
            return NOT;
        }
        now = images[i].copy();
        seed = imageSeeds[i];
        past.clear();
        return 1;
    }
}
