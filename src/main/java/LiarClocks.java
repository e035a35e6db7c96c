import java.util.Arrays;

/** Clocks that hold together by asking one another, though some of them lie. */
public final class LiarClocks {
    public static final int NONE = -1, UNKNOWN = -1000000001, OUTSIDE = -1000000002, NOT = -1000000003, FULL = -1000000004;

    private static final int MOST_LETTERS = 200;
    private static final int MOST_CLOCKS = 8;
    private static final int MOST_ALARMS = 6;
    private static final int MOST_ENTRIES = 20;
    private static final int MOST_UNDONE = 16;
    private static final int MOST_TICKS = 20;
    private static final int MOST_ROUNDS = 20;
    private static final int MOST_DRAWN = 16;
    private static final int MOST_IMAGES = 2;
    private static final int MOST_LIE = 9999;
    private static final int MOST_ERROR = 20;
    private static final int MOST_BOUND = 9999;
    private static final int MOST_ALARM_VALUE = 999999;
    private static final int FIRST_STEP = 10;

    /** Added to answers that may be below 0, so that they are not taken for NONE. */
    private static final int LIFT = 100000;
    /** The answer for a WORST that has no bound. */
    private static final int BOUNDLESS = 1000000;
    /** Beyond every AIM that 512 calls can reach, and still far from wrapping around. */
    private static final int FAR = 1000000000;

    private final State now;
    /** Rounds that are only asked about, and texts that may have a fault, go here first. */
    private final State trial;
    private final Text text;
    private final Council council;
    private final History history;
    private final Book book;
    private final Draws draws;
    private final State[] images;
    private final int[] imageSeeds;
    private final boolean[] kept;

    public LiarClocks() {
        now = new State();
        trial = new State();
        text = new Text();
        council = new Council();
        history = new History();
        book = new Book();
        draws = new Draws();
        images = new State[MOST_IMAGES];
        for (int i = 0; i < MOST_IMAGES; i++) {
            images[i] = new State();
        }
        imageSeeds = new int[MOST_IMAGES];
        kept = new boolean[MOST_IMAGES];
    }

    // ---- clocks

    public int feed(int letter) {
        if (!between(letter, 0, 255)) {
            return OUTSIDE;
        }
        if (text.length >= MOST_LETTERS) {
            return FULL;
        }
        return text.append(letter);
    }

    public int clocks() {
        int kind = text.readInto(trial);
        if (kind != Text.NO_FAULT) {
            return -10 - kind;
        }
        now.copyFrom(trial);
        history.forget();
        book.size = 0;
        for (int i = 0; i < MOST_IMAGES; i++) {
            kept[i] = false;
        }
        return now.count;
    }

    public int fault() {
        return text.faultAt;
    }

    public int told(int what) {
        switch (what) {
            case 0: return now.count;
            case 1: return now.strike;
            case 2: return now.step;
            case 3: return text.length;
            case 4: return now.liars;
            case 5: return now.standing;
            case 6: return now.trueSet();
            case 7: return now.apart();
            case 8: return council.worst(now);
            case 9: return now.mayLie();
            case 10: return now.alarms;
            case 11: return now.rung;
            case 12: return now.times;
            case 13: return book.size;
            case 14: return book.firstWrong(now);
            case 15: return history.size;
            default: return OUTSIDE;
        }
    }

    public int clock(int c, int what) {
        if (!now.has(c)) {
            return UNKNOWN;
        }
        switch (what) {
            case 0: return now.value[c];
            case 1: return now.rate[c];
            case 2: return now.ahead[c] + LIFT;
            case 3: return now.aim(c) + LIFT;
            case 4: return now.lies(c) ? 1 : 0;
            case 5: return now.stands(c) ? 1 : 0;
            case 6: return now.isTrue(c) && !now.allStruck() ? council.middleFor(now, c) + LIFT : NONE;
            default: return OUTSIDE;
        }
    }

    public int heard(int j, int i, int what) {
        if (!now.hasBoth(j, i)) {
            return UNKNOWN;
        }
        switch (what) {
            case 0: return now.heardOf(j, i) + LIFT;
            case 1: return now.error[State.way(j, i)] + MOST_ERROR;
            case 2: return now.lie[State.way(j, i)] + MOST_LIE;
            case 3: return now.rank(j, i);
            case 4: return now.isTrue(i) && now.tellsLies(j) ? council.farthest(now, j, i) + MOST_LIE : NONE;
            default: return OUTSIDE;
        }
    }

    public int alarmAt(int a, int what) {
        if (!between(a, 0, now.alarms - 1)) {
            return UNKNOWN;
        }
        switch (what) {
            case 0: return now.alarmClock[a];
            case 1: return now.alarmValue[a];
            case 2: return (now.rung >> a) & 1;
            default: return OUTSIDE;
        }
    }

    // ---- deeds

    public int tick(int n) {
        if (!between(n, 1, MOST_TICKS)) {
            return OUTSIDE;
        }
        history.remember(now);
        int rungByIt = 0;
        for (int k = 0; k < n; k++) {
            rungByIt |= now.goOn();
        }
        return rungByIt;
    }

    public int round() {
        history.remember(now);
        council.meet(now);
        return now.apart();
    }

    public int lie(int j, int i, int v) {
        if (!now.hasBoth(j, i)) {
            return UNKNOWN;
        }
        if (!between(v, -MOST_LIE, MOST_LIE)) {
            return OUTSIDE;
        }
        history.remember(now);
        int was = now.lie[State.way(j, i)];
        now.lie[State.way(j, i)] = v;
        return was + MOST_LIE;
    }

    public int error(int j, int i, int v) {
        if (!now.hasBoth(j, i)) {
            return UNKNOWN;
        }
        if (!between(v, -MOST_ERROR, MOST_ERROR)) {
            return OUTSIDE;
        }
        history.remember(now);
        int was = now.error[State.way(j, i)];
        now.error[State.way(j, i)] = v;
        return was + MOST_ERROR;
    }

    public int liar(int c, boolean is) {
        if (!now.has(c)) {
            return UNKNOWN;
        }
        history.remember(now);
        now.liars = is ? now.liars | 1 << c : now.liars & ~(1 << c);
        return Integer.bitCount(now.liars);
    }

    public int stand(int c) {
        if (!now.has(c)) {
            return UNKNOWN;
        }
        if (now.stands(c)) {
            return NOT;
        }
        history.remember(now);
        now.standing |= 1 << c;
        return Integer.bitCount(now.standing);
    }

    public int join(int c) {
        if (!now.has(c)) {
            return UNKNOWN;
        }
        if (!now.stands(c) || !council.canJoin(now, c)) {
            return NOT;
        }
        history.remember(now);
        council.letJoin(now, c);
        return now.value[c];
    }

    public int alarm(int c, int v) {
        if (!now.has(c)) {
            return UNKNOWN;
        }
        if (!between(v, 0, MOST_ALARM_VALUE)) {
            return OUTSIDE;
        }
        if (now.alarms >= MOST_ALARMS) {
            return FULL;
        }
        history.remember(now);
        return now.setAlarm(c, v);
    }

    public int drift(int n) {
        if (!between(n, 1, MOST_DRAWN)) {
            return OUTSIDE;
        }
        if (now.count > 0) {
            for (int k = 0; k < n; k++) {
                history.remember(now);
                driftOnce();
            }
        }
        return now.apart();
    }

    public int undo(int n) {
        if (!between(n, 1, MOST_UNDONE)) {
            return OUTSIDE;
        }
        if (n > history.size) {
            return NOT;
        }
        history.takeBack(n, now);
        return now.times;
    }

    // ---- asked

    public int behind(int n) {
        if (!between(n, 0, MOST_ROUNDS)) {
            return OUTSIDE;
        }
        trial.copyFrom(now);
        for (int k = 0; k < n; k++) {
            council.meet(trial);
        }
        return trial.apart();
    }

    public int within(int b) {
        if (!between(b, 0, MOST_BOUND)) {
            return OUTSIDE;
        }
        // Without a true clock there is no APART that could be within b.
        if (now.trueSet() == 0) {
            return NONE;
        }
        trial.copyFrom(now);
        for (int rounds = 0; rounds <= MOST_ROUNDS; rounds++) {
            if (trial.apart() <= b) {
                return rounds;
            }
            council.meet(trial);
        }
        return NONE;
    }

    // ---- the book

    public int write(int c, int v) {
        if (!now.has(c)) {
            return UNKNOWN;
        }
        if (book.size >= MOST_ENTRIES) {
            return FULL;
        }
        return book.append(c, v);
    }

    public int tear() {
        int had = book.size;
        book.size = 0;
        return had;
    }

    // ---- images

    public int seed(int v) {
        if (v < 0) {
            return OUTSIDE;
        }
        int was = draws.current;
        draws.current = v;
        return was;
    }

    public int keep(int i) {
        if (!between(i, 0, MOST_IMAGES - 1)) {
            return UNKNOWN;
        }
        images[i].copyFrom(now);
        imageSeeds[i] = draws.current;
        kept[i] = true;
        history.forget();
        return 1;
    }

    public int goBack(int i) {
        if (!between(i, 0, MOST_IMAGES - 1)) {
            return UNKNOWN;
        }
        if (!kept[i]) {
            return NOT;
        }
        now.copyFrom(images[i]);
        draws.current = imageSeeds[i];
        history.forget();
        return 1;
    }

    // ---- within

    private static boolean between(int v, int least, int most) {
        return v >= least && v <= most;
    }

    private void driftOnce() {
        // All five are drawn each time, so that the seed goes on alike whatever they are.
        int j = draws.next(now.count);
        int i = draws.next(now.count);
        int newLie = draws.next(2001) - 1000;
        int newError = draws.next(41) - 20;
        int turn = draws.next(3);
        if (now.hasBoth(j, i)) {
            now.lie[State.way(j, i)] = newLie;
            now.error[State.way(j, i)] = newError;
        }
        if (turn == 0) {
            council.meet(now);
        } else {
            now.goOn();
        }
    }

    /** All that deeds change and undoing gives back: the clocks, the alarms, the times. */
    private static final class State {
        private int count;
        private int strike;
        private int step = FIRST_STEP;
        private int liars;
        private int standing;
        private int alarms;
        private int rung;
        private int times;
        private final int[] value = new int[MOST_CLOCKS];
        private final int[] rate = new int[MOST_CLOCKS];
        private final int[] ahead = new int[MOST_CLOCKS];
        private final int[] lie = new int[MOST_CLOCKS * MOST_CLOCKS];
        private final int[] error = new int[MOST_CLOCKS * MOST_CLOCKS];
        private final int[] alarmClock = new int[MOST_ALARMS];
        private final int[] alarmValue = new int[MOST_ALARMS];

        /** Where the lie and the error from j to i stand. */
        private static int way(int j, int i) {
            return j * MOST_CLOCKS + i;
        }

        private void clear() {
            count = 0;
            strike = 0;
            step = FIRST_STEP;
            liars = 0;
            standing = 0;
            alarms = 0;
            rung = 0;
            times = 0;
            Arrays.fill(lie, 0);
            Arrays.fill(error, 0);
        }

        private void copyFrom(State other) {
            count = other.count;
            strike = other.strike;
            step = other.step;
            liars = other.liars;
            standing = other.standing;
            alarms = other.alarms;
            rung = other.rung;
            times = other.times;
            System.arraycopy(other.value, 0, value, 0, MOST_CLOCKS);
            System.arraycopy(other.rate, 0, rate, 0, MOST_CLOCKS);
            System.arraycopy(other.ahead, 0, ahead, 0, MOST_CLOCKS);
            System.arraycopy(other.lie, 0, lie, 0, MOST_CLOCKS * MOST_CLOCKS);
            System.arraycopy(other.error, 0, error, 0, MOST_CLOCKS * MOST_CLOCKS);
            System.arraycopy(other.alarmClock, 0, alarmClock, 0, MOST_ALARMS);
            System.arraycopy(other.alarmValue, 0, alarmValue, 0, MOST_ALARMS);
        }

        private void addClock(int newValue, int newRate) {
            if (count < MOST_CLOCKS) {
                value[count] = newValue;
                rate[count] = newRate;
                ahead[count] = 0;
                count++;
            }
        }

        private boolean has(int c) {
            return c >= 0 && c < count;
        }

        private boolean hasBoth(int j, int i) {
            return has(j) && has(i) && j != i;
        }

        private boolean lies(int c) {
            return (liars >> c & 1) == 1;
        }

        private boolean stands(int c) {
            return (standing >> c & 1) == 1;
        }

        private boolean isTrue(int c) {
            return !lies(c) && !stands(c);
        }

        /** One that stands tells nothing, so it tells no lies either. */
        private boolean tellsLies(int c) {
            return lies(c) && !stands(c);
        }

        private int trueSet() {
            return (1 << count) - 1 & ~liars & ~standing;
        }

        private int aim(int c) {
            return value[c] + ahead[c];
        }

        private int heardOf(int j, int i) {
            if (j == i || stands(j)) {
                return aim(i);
            }
            return lies(j) ? aim(i) + lie[way(j, i)] : aim(j) + error[way(j, i)];
        }

        private boolean allStruck() {
            return count <= 2 * strike;
        }

        private int rank(int j, int i) {
            int mine = heardOf(j, i);
            int place = 0;
            for (int k = 0; k < count; k++) {
                int other = heardOf(k, i);
                if (other < mine || other == mine && k < j) {
                    place++;
                }
            }
            return place;
        }

        private int apart() {
            int seen = 0;
            int least = 0;
            int most = 0;
            for (int c = 0; c < count; c++) {
                if (isTrue(c)) {
                    least = seen == 0 ? aim(c) : Math.min(least, aim(c));
                    most = seen == 0 ? aim(c) : Math.max(most, aim(c));
                    seen++;
                }
            }
            return seen == 0 ? NONE : most - least;
        }

        private int mayLie() {
            int going = count - Integer.bitCount(standing);
            return going < 1 ? NONE : Math.min(strike, (going - 1) / 3);
        }

        /** One TICK; answers the alarms that it rings. */
        private int goOn() {
            for (int c = 0; c < count; c++) {
                if (!stands(c)) {
                    int more = Math.max(-step, Math.min(step, ahead[c]));
                    value[c] += rate[c] + more;
                    ahead[c] -= more;
                }
            }
            times++;
            return ring();
        }

        private int setAlarm(int c, int v) {
            int number = alarms;
            if (number < MOST_ALARMS) {
                alarmClock[number] = c;
                alarmValue[number] = v;
                alarms++;
                ring();
            }
            return number;
        }

        /** Rings what is due and not yet rung: an alarm must not be told twice. */
        private int ring() {
            int newly = 0;
            for (int a = 0; a < alarms; a++) {
                if ((rung >> a & 1) == 0 && value[alarmClock[a]] >= alarmValue[a]) {
                    newly |= 1 << a;
                }
            }
            rung |= newly;
            return newly;
        }
    }

    /** What one clock hears, in order. */
    private static final class Hearing {
        private final int[] order = new int[MOST_CLOCKS];
        private int size;

        private void take(int heard) {
            if (size >= MOST_CLOCKS) {
                return;
            }
            int place = size;
            while (place > 0 && order[place - 1] > heard) {
                order[place] = order[place - 1];
                place--;
            }
            order[place] = heard;
            size++;
        }

        private boolean leaves(int strike) {
            return strike >= 0 && size > 2 * strike;
        }

        private int middle(int strike) {
            return leaves(strike) ? Math.floorDiv(order[strike] + order[size - 1 - strike], 2) : 0;
        }
    }

    /** Rounds and joining; it keeps its rows, so that no call makes new ones. */
    private static final class Council {
        private final Hearing hearing = new Hearing();
        private final int[] middles = new int[MOST_CLOCKS];
        private final int[] low = new int[MOST_CLOCKS];
        private final int[] high = new int[MOST_CLOCKS];

        private int middleFor(State s, int i) {
            hearing.size = 0;
            for (int j = 0; j < s.count; j++) {
                hearing.take(s.heardOf(j, i));
            }
            return hearing.middle(s.strike);
        }

        private void meet(State s) {
            if (s.allStruck()) {
                return;
            }
            // Every middle is found ahead of the first change, for all go at once.
            for (int i = 0; i < s.count; i++) {
                middles[i] = s.isTrue(i) ? middleFor(s, i) : 0;
            }
            for (int i = 0; i < s.count; i++) {
                if (s.isTrue(i)) {
                    s.ahead[i] = middles[i] - s.value[i];
                }
            }
        }

        private boolean canJoin(State s, int c) {
            hearToJoin(s, c);
            return hearing.leaves(s.strike);
        }

        private void letJoin(State s, int c) {
            hearToJoin(s, c);
            s.value[c] = hearing.middle(s.strike);
            s.ahead[c] = 0;
            s.standing &= ~(1 << c);
            s.ring();
        }

        private void hearToJoin(State s, int c) {
            hearing.size = 0;
            for (int j = 0; j < s.count; j++) {
                if (j != c && !s.stands(j)) {
                    hearing.take(s.heardOf(j, c));
                }
            }
        }

        /** The middle of i, if j told it the lie v. */
        private int middleByLie(State s, int j, int i, int v) {
            hearing.size = 0;
            for (int k = 0; k < s.count; k++) {
                hearing.take(k == j ? s.aim(i) + v : s.heardOf(k, i));
            }
            return hearing.middle(s.strike);
        }

        private int farthest(State s, int j, int i) {
            int best = -MOST_LIE;
            if (s.allStruck()) {
                return best;
            }
            int bestFar = Math.abs(middleByLie(s, j, i, best) - s.aim(i));
            for (int v = 0; v <= MOST_LIE; v += MOST_LIE) {
                int far = Math.abs(middleByLie(s, j, i, v) - s.aim(i));
                if (far > bestFar) {
                    best = v;
                    bestFar = far;
                }
            }
            return best;
        }

        private int worst(State s) {
            // With fewer than two true clocks, or none that aims anew, no lie changes APART.
            if (Integer.bitCount(s.trueSet()) < 2 || s.allStruck()) {
                return s.apart();
            }
            if (Integer.bitCount(s.liars & ~s.standing) > s.strike) {
                return BOUNDLESS;
            }
            for (int i = 0; i < s.count; i++) {
                if (s.isTrue(i)) {
                    low[i] = middleWithLiarsAt(s, i, -FAR);
                    high[i] = middleWithLiarsAt(s, i, FAR);
                }
            }
            return widestPair(s);
        }

        /** A middle only rises with what is heard, so the ends come when all liars tell the ends. */
        private int middleWithLiarsAt(State s, int i, int end) {
            hearing.size = 0;
            for (int j = 0; j < s.count; j++) {
                hearing.take(s.tellsLies(j) ? end : s.heardOf(j, i));
            }
            return hearing.middle(s.strike);
        }

        /** Each may be told something else, but no clock can be at both ends itself. */
        private int widestPair(State s) {
            int widest = 0;
            for (int i = 0; i < s.count; i++) {
                for (int k = 0; k < s.count; k++) {
                    if (i != k && s.isTrue(i) && s.isTrue(k)) {
                        widest = Math.max(widest, high[i] - low[k]);
                    }
                }
            }
            return widest;
        }
    }

    /** The text as it is fed, and its reading. */
    private static final class Text {
        private static final int NO_FAULT = 0;
        private static final int MISPLACED = 1;
        private static final int OUT_OF_BOUNDS = 2;
        private static final int NINTH = 3;
        private static final int AGAIN = 4;
        private static final int MOST_FIGURES = 4;

        private final int[] letters = new int[MOST_LETTERS];
        private int length;
        private int at;
        private int numberAt;
        private int faultKind;
        private int faultAt = NONE;
        private boolean strikeTold;
        private boolean stepTold;

        private int append(int letter) {
            if (length < MOST_LETTERS) {
                letters[length] = letter;
                length++;
            }
            return length;
        }

        /** Reads and empties the text; answers the kind of its first fault. */
        private int readInto(State s) {
            s.clear();
            at = 0;
            faultKind = NO_FAULT;
            faultAt = NONE;
            strikeTold = false;
            stepTold = false;
            skipBlanks();
            // Each clause takes a letter at least, so there are no more clauses than letters.
            for (int clause = 0; clause < MOST_LETTERS && at < length && faultKind == NO_FAULT; clause++) {
                readClause(s);
                skipBlanks();
            }
            length = 0;
            return faultKind;
        }

        private void readClause(State s) {
            switch (letter()) {
                case 'k': readClock(s); break;
                case 'l': readLiar(s); break;
                case 'f': readStrike(s); break;
                case 's': readStep(s); break;
                default: note(MISPLACED, at); break;
            }
            if (letter() == ';') {
                at++;
            } else {
                note(MISPLACED, at);
            }
        }

        private void readClock(State s) {
            if (s.count >= MOST_CLOCKS) {
                note(NINTH, at);
                return;
            }
            at++;
            int newValue = readNumber(0, 9999);
            int newRate = readNumber(90, 110);
            s.addClock(newValue, newRate);
        }

        private void readLiar(State s) {
            at++;
            int c = readNumber(0, s.count - 1);
            if (faultKind != NO_FAULT) {
                return;
            }
            if (s.lies(c)) {
                note(AGAIN, numberAt);
            }
            s.liars |= 1 << c;
        }

        private void readStrike(State s) {
            if (strikeTold) {
                note(AGAIN, at);
            }
            strikeTold = true;
            at++;
            s.strike = readNumber(0, 3);
        }

        private void readStep(State s) {
            if (stepTold) {
                note(AGAIN, at);
            }
            stepTold = true;
            at++;
            s.step = readNumber(0, 80);
        }

        /** Blanks around a number belong to nothing, so they are skipped on both sides. */
        private int readNumber(int least, int most) {
            skipBlanks();
            numberAt = at;
            int number = 0;
            while (at < length && isFigure(letters[at])) {
                if (at - numberAt < MOST_FIGURES) {
                    number = number * 10 + letters[at] - '0';
                }
                at++;
            }
            if (at == numberAt) {
                note(MISPLACED, at);
            } else if (at - numberAt > MOST_FIGURES || number < least || number > most) {
                note(OUT_OF_BOUNDS, numberAt);
            }
            skipBlanks();
            return number;
        }

        /** Only the first fault counts, and the text is read from left to right. */
        private void note(int kind, int place) {
            if (faultKind == NO_FAULT) {
                faultKind = kind;
                faultAt = place;
            }
        }

        private void skipBlanks() {
            while (at < length && letters[at] == ' ') {
                at++;
            }
        }

        /** The letter to be read; NONE at the end. */
        private int letter() {
            return at < length ? letters[at] : NONE;
        }

        private static boolean isFigure(int letter) {
            return letter >= '0' && letter <= '9';
        }
    }

    /** The states ahead of the latest deeds, in a ring. */
    private static final class History {
        private final State[] states = new State[MOST_UNDONE];
        private int next;
        private int size;

        private History() {
            for (int k = 0; k < MOST_UNDONE; k++) {
                states[k] = new State();
            }
        }

        private void remember(State s) {
            states[next].copyFrom(s);
            next = (next + 1) % MOST_UNDONE;
            size = Math.min(size + 1, MOST_UNDONE);
        }

        private void takeBack(int n, State into) {
            if (n >= 1 && n <= size) {
                next = Math.floorMod(next - n, MOST_UNDONE);
                size -= n;
                into.copyFrom(states[next]);
            }
        }

        private void forget() {
            size = 0;
        }
    }

    /** What was written of the clocks' aims. */
    private static final class Book {
        private final int[] clock = new int[MOST_ENTRIES];
        private final int[] aim = new int[MOST_ENTRIES];
        private int size;

        private int append(int c, int v) {
            if (size < MOST_ENTRIES) {
                clock[size] = c;
                aim[size] = v;
                size++;
            }
            return size;
        }

        private int firstWrong(State s) {
            for (int e = 0; e < size; e++) {
                if (!s.has(clock[e]) || s.aim(clock[e]) != aim[e]) {
                    return e;
                }
            }
            return NONE;
        }
    }

    /** Numbers that follow from the seed alone. */
    private static final class Draws {
        private int current;

        private int next(int n) {
            current = (int) ((current * 1103515245L + 12345L) % 2147483648L);
            return n > 0 ? current / 65536 % n : 0;
        }
    }
}
