import java.util.Arrays;

/**
 * Clocks that hang on one beam. The document (DOC.md) tells every call as a numbered promise; the
 * words in capitals in the comments here are its terms.
 *
 * <p>All rows are made in the constructor and used again, so that no call makes an object.
 */
public final class BeamClocks {
    public static final int BAD = -1, STATE = -2, FULL = -3, NONE = -4;

    private static final int MOST_CLOCKS = 5;
    private static final int PLAIN = 0, SOFT = 1, HEAVY = 2, SHY = 3;
    private static final int LEAST_PERIOD = 2, MOST_PERIOD = 30;
    private static final int MOST_HAND = MOST_PERIOD - 1;
    private static final int MOST_PUSH = 5, FIRST_PUSH = 1;
    private static final int MOST_TICKS = 100, TICKS_FULL = 10000;
    private static final int FAR = 300;
    private static final int MOST_HELD = 8;
    private static final int TEN = 10;
    private static final int MOST_SEEN = 6, LAST_SEEN_TICK = 60;
    private static final int MOST_BYTES = 160;
    private static final int IMAGES = 2;
    private static final int SHEETS = 4, MOST_CELLS = 40, MOST_READ = 20;
    private static final int BYTES = 0, SHORTS = 1, INTS = 2;
    private static final int NOTHING = -1;
    private static final int FAULT_NULL = 1, FAULT_INDEX = 2, FAULT_CAST = 3, FAULT_SIZE = 4;
    private static final int NO_TOKEN = 1, NOT_THERE = 2, OUT_OF_BOUNDS = 3, SECOND_PUSH = 4, SIXTH_CLOCK = 5;
    private static final int FAULT_ANSWER = -10, REFUSED_ANSWER = -20;

    private final Beam now = new Beam();
    private final Beam trial = new Beam();
    private final Beam[] images = new Beam[IMAGES];
    private final boolean[] kept = new boolean[IMAGES];
    private final Reader reader = new Reader();
    private final Seen seen = new Seen();
    private final Sheet[] sheets = new Sheet[SHEETS];
    private final Best best = new Best();
    private final int[] heard = new int[LAST_SEEN_TICK + 1];
    private int textFault;
    private int readFault;

    public BeamClocks() {
        for (int k = 0; k < IMAGES; k++) {
            images[k] = new Beam();
        }
        for (int k = 0; k < SHEETS; k++) {
            sheets[k] = new Sheet();
        }
    }

    // ---- the text, what there is

    public int feed(int c) {
        if (!isWithin(c, 0, 127)) {
            return BAD;
        }
        if (reader.length >= MOST_BYTES) {
            return FULL;
        }
        reader.tape[reader.length] = (byte) c;
        reader.length++;
        return reader.length;
    }

    public int end(int n) {
        if (!isWithin(n, 0, reader.length)) {
            return BAD;
        }
        int had = reader.length;
        reader.length = n;
        return had;
    }

    public int text() {
        // The trial beam takes what is told, so that a FAULT leaves the beam as it was.
        trial.empty();
        reader.readText(trial);
        reader.length = 0;
        textFault = reader.fault;
        if (textFault != 0) {
            return FAULT_ANSWER - reader.place;
        }
        now.takeFrom(trial);
        seen.size = 0;
        for (int k = 0; k < IMAGES; k++) {
            kept[k] = false;
        }
        return reader.lines;
    }

    public int fault() {
        return textFault;
    }

    public int rule(int what) {
        switch (what) {
            case 0:
                return now.clocks;
            case 1:
                return now.push;
            case 2:
                return now.tick;
            case 3:
                return sumOf(now.beatenBy);
            case 4:
                return tryNow().step(false);
            case 5:
                return sumOf(now.handOf);
            default:
                return BAD;
        }
    }

    public int clock(int c, int what) {
        if (!isClock(c)) {
            return BAD;
        }
        switch (what) {
            case 0:
                return now.kindOf[c];
            case 1:
                return now.periodOf[c];
            case 2:
                return now.handOf[c];
            case 3:
                return now.beatenBy[c];
            case 4:
                return now.goesOn(c) ? 1 : 0;
            default:
                return BAD;
        }
    }

    // ---- what is changed

    public int alter(int c, int what, int v) {
        if (!isClock(c)) {
            return BAD;
        }
        switch (what) {
            case 0:
                return now.alterKind(c, v);
            case 1:
                return now.alterPeriod(c, v);
            case 2:
                return now.alterHand(c, v);
            default:
                return BAD;
        }
    }

    public int push(int v) {
        if (!isWithin(v, 0, MOST_PUSH)) {
            return BAD;
        }
        int was = now.push;
        now.push = v;
        return was;
    }

    public int hang(int kind, int period) {
        if (!isWithin(kind, PLAIN, SHY) || !isWithin(period, LEAST_PERIOD, MOST_PERIOD)) {
            return BAD;
        }
        if (now.clocks >= MOST_CLOCKS) {
            return FULL;
        }
        now.addClock(kind, period, 0);
        return now.clocks;
    }

    public int cut(int n) {
        if (!isWithin(n, 0, now.clocks)) {
            return BAD;
        }
        int had = now.clocks;
        now.clocks = n;
        return had;
    }

    public int knock(int c, int many) {
        if (!isClock(c) || !isWithin(many, 1, MOST_CLOCKS)) {
            return BAD;
        }
        now.shift(c, many);
        return now.handOf[c];
    }

    // ---- ticks

    public int ticks(int n) {
        if (!isWithin(n, 0, MOST_TICKS)) {
            return BAD;
        }
        if (now.tick + n >= TICKS_FULL) {
            return FULL;
        }
        return now.stepMany(n);
    }

    public int runs(int n, int what) {
        if (!isWithin(n, 0, FAR) || !isWithin(what, 0, 4)) {
            return BAD;
        }
        tryNow();
        int all = trial.everyClock();
        int sum = 0;
        int any = 0;
        int most = 0;
        int whole = 0;
        for (int t = 0; t < n; t++) {
            int who = trial.step(false);
            int many = Integer.bitCount(who);
            sum += many;
            most = Math.max(most, many);
            if (who != 0) {
                any++;
                whole += who == all ? 1 : 0;
            }
        }
        switch (what) {
            case 0:
                return sum;
            case 1:
                return any;
            case 2:
                return most;
            case 3:
                return whole;
            default:
                return trial.sumOfHands();
        }
    }

    public int ahead(int c, int n, int what) {
        if (!isClock(c) || !isWithin(n, 0, FAR) || !isWithin(what, 0, 1)) {
            return BAD;
        }
        tryNow().stepMany(n);
        return what == 0 ? trial.handOf[c] : trial.beatenBy[c] - now.beatenBy[c];
    }

    public int beats(int n) {
        if (!isWithin(n, 0, FAR)) {
            return BAD;
        }
        tryNow().stepMany(n);
        return trial.step(false);
    }

    public int together() {
        return tryNow().firstTogether(FAR);
    }

    public int again() {
        tryNow();
        for (int t = 1; t <= FAR; t++) {
            trial.step(false);
            if (trial.hasHandsOf(now)) {
                return t;
            }
        }
        return NONE;
    }

    // ---- what is best

    public int period(int c, int what) {
        if (!isClock(c) || !isWithin(what, 0, 1)) {
            return BAD;
        }
        best.restart(FAR);
        for (int p = LEAST_PERIOD; p <= MOST_PERIOD; p++) {
            best.offer(p, tryPeriod(c, p));
        }
        return best.answer(what);
    }

    public int hand(int c, int what) {
        if (!isClock(c) || !isWithin(what, 0, 1)) {
            return BAD;
        }
        best.restart(FAR);
        for (int h = 0; h < now.periodOf[c]; h++) {
            best.offer(h, tryHand(c, h));
        }
        return best.answer(what);
    }

    public int kind(int c, int what) {
        if (!isClock(c) || !isWithin(what, 0, 1)) {
            return BAD;
        }
        best.restart(FAR);
        for (int k = PLAIN; k <= SHY; k++) {
            best.offer(k, tryKind(c, k));
        }
        return best.answer(what);
    }

    public int force(int what) {
        if (!isWithin(what, 0, 1)) {
            return BAD;
        }
        best.restart(FAR);
        for (int v = 0; v <= MOST_PUSH; v++) {
            tryNow().push = v;
            best.offer(v, trial);
        }
        return best.answer(what);
    }

    public int away(int what) {
        if (!isWithin(what, 0, 1)) {
            return BAD;
        }
        int asItIs = tryNow().firstTogether(FAR);
        best.restart(asItIs == NONE ? FAR : asItIs - 1);
        for (int c = 0; c < now.clocks; c++) {
            tryNow().takeAway(c);
            best.offer(c, trial);
        }
        return best.answer(what);
    }

    // ---- a beam that is held

    public long luck(int v, int c, int n, int what) {
        if (!isWithin(v, 0, TEN) || !isClock(c) || !isWithin(n, 0, MOST_HELD) || !isWithin(what, 0, 1)) {
            return BAD;
        }
        long sum = 0;
        for (int held = 0; held < 1 << n; held++) {
            tryNow().stepHeld(n, held);
            if (isBitSet(trial.step(false), c)) {
                sum += weightOf(held, v, n);
            }
        }
        return fraction(sum, powerOf(TEN, n), what);
    }

    public long mean(int v, int n, int what) {
        if (!isWithin(v, 0, TEN) || !isWithin(n, 0, MOST_HELD) || !isWithin(what, 0, 1)) {
            return BAD;
        }
        long sum = 0;
        for (int held = 0; held < 1 << n; held++) {
            sum += tryNow().stepHeld(n, held) * weightOf(held, v, n);
        }
        return fraction(sum, powerOf(TEN, n), what);
    }

    // ---- what was heard

    public int see(int n, int c, int v) {
        if (!isWithin(n, 0, LAST_SEEN_TICK) || !isClock(c) || !isWithin(v, 0, 1)) {
            return BAD;
        }
        if (seen.size >= MOST_SEEN) {
            return FULL;
        }
        seen.add(n, c, v);
        return seen.size;
    }

    public int forget(int n) {
        if (!isWithin(n, 0, seen.size)) {
            return BAD;
        }
        int had = seen.size;
        seen.size = n;
        return had;
    }

    public int kinds(int c) {
        if (!isClock(c)) {
            return BAD;
        }
        int bits = 0;
        for (int k = PLAIN; k <= SHY; k++) {
            if (seen.fits(tryKind(c, k))) {
                bits |= 1 << k;
            }
        }
        return bits;
    }

    public int periods(int c) {
        if (!isClock(c)) {
            return BAD;
        }
        int bits = 0;
        for (int p = LEAST_PERIOD; p <= MOST_PERIOD; p++) {
            if (seen.fits(tryPeriod(c, p))) {
                bits |= 1 << p;
            }
        }
        return bits;
    }

    public int hands(int c) {
        return isClock(c) ? handsAsSeen(c) : BAD;
    }

    public int ask(int c, int what) {
        if (!isClock(c) || !isWithin(what, 0, 1)) {
            return BAD;
        }
        int may = handsAsSeen(c);
        listenForAll(c, may);
        int all = Integer.bitCount(may);
        int fewest = all;
        int tick = NONE;
        for (int t = 0; t <= LAST_SEEN_TICK; t++) {
            int worst = Math.max(heard[t], all - heard[t]);
            if (worst < fewest) {
                fewest = worst;
                tick = t;
            }
        }
        return tick == NONE || what == 0 ? tick : fewest;
    }

    // ---- by a seed

    public int drift(int seed, int n, int what) {
        if (!isWithin(n, 1, FAR) || !isWithin(what, 0, 1)) {
            return BAD;
        }
        if (now.clocks == 0) {
            return STATE;
        }
        tryNow();
        int next = seed;
        int sum = 0;
        for (int t = 0; t < n; t++) {
            next = next * 1103515245 + 12345;
            int got = next >>> 16 & 0x7FFF;
            trial.shift(got % now.clocks, 1 + got / 8 % 5);
            sum += Integer.bitCount(trial.step(false));
        }
        return what == 0 ? sum : trial.sumOfHands();
    }

    // ---- images, sheets

    public int keep(int k) {
        if (!isWithin(k, 0, IMAGES - 1)) {
            return BAD;
        }
        int was = kept[k] ? 1 : 0;
        images[k].takeFrom(now);
        kept[k] = true;
        return was;
    }

    public int back(int k) {
        if (!isWithin(k, 0, IMAGES - 1)) {
            return BAD;
        }
        if (!kept[k]) {
            return STATE;
        }
        now.takeFrom(images[k]);
        return now.tick;
    }

    public int sheet(int k, int lane, int n) {
        if (!isSheet(k) || !isWithin(lane, BYTES, INTS) || n > MOST_CELLS) {
            return BAD;
        }
        if (n < 0) {
            return FAULT_ANSWER - FAULT_SIZE;
        }
        sheets[k].begin(lane, n);
        return 1;
    }

    public int lay(int k, int i, int v) {
        if (!isSheet(k)) {
            return BAD;
        }
        int found = sheets[k].faultAt(i);
        if (found != 0) {
            return FAULT_ANSWER - found;
        }
        sheets[k].put(i, v);
        return 1;
    }

    public int read(int k, int lane, int f, int n) {
        if (!isSheet(k) || !isWithin(lane, BYTES, INTS) || !isWithin(n, 0, MOST_READ)) {
            return BAD;
        }
        // Hands come to the trial beam first: one that is refused takes back all ahead of it.
        tryNow();
        Sheet from = sheets[k];
        int came = 0;
        int found = 0;
        while (came < n) {
            int at = f + 2 * came;
            found = from.faultOfPair(lane, at);
            if (found != 0) {
                break;
            }
            if (!trial.takesHand(from.row[at], from.row[at + 1])) {
                return REFUSED_ANSWER - came;
            }
            came++;
        }
        now.takeFrom(trial);
        readFault = found;
        return came;
    }

    public int torn() {
        return readFault;
    }

    public int count(int what) {
        switch (what) {
            case 0:
                return seen.size;
            case 1:
                return imagesKept();
            case 2:
                return reader.length;
            case 3:
                return sheets[0].lane == NOTHING ? NONE : sheets[0].cells;
            case 4:
                return sumOf(now.periodOf);
            case 5:
                return sumOf(now.kindOf);
            default:
                return BAD;
        }
    }

    // ---- what the calls share

    private static boolean isWithin(int v, int least, int most) {
        return v >= least && v <= most;
    }

    private static boolean isBitSet(int bits, int bit) {
        return (bits >> bit & 1) != 0;
    }

    private boolean isClock(int c) {
        return c >= 0 && c < now.clocks;
    }

    private static boolean isSheet(int k) {
        return k >= 0 && k < SHEETS;
    }

    private int imagesKept() {
        int many = 0;
        for (int k = 0; k < IMAGES; k++) {
            many += kept[k] ? 1 : 0;
        }
        return many;
    }

    private int sumOf(int[] ofClocks) {
        int sum = 0;
        for (int c = 0; c < now.clocks; c++) {
            sum += ofClocks[c];
        }
        return sum;
    }

    private Beam tryNow() {
        trial.takeFrom(now);
        return trial;
    }

    private Beam tryKind(int c, int kind) {
        tryNow().kindOf[c] = kind;
        return trial;
    }

    private Beam tryPeriod(int c, int period) {
        tryNow().periodOf[c] = period;
        trial.handOf[c] = Math.min(trial.handOf[c], period - 1);
        return trial;
    }

    private Beam tryHand(int c, int hand) {
        tryNow().handOf[c] = hand;
        return trial;
    }

    private int handsAsSeen(int c) {
        int bits = 0;
        for (int h = 0; h < now.periodOf[c]; h++) {
            if (seen.fits(tryHand(c, h))) {
                bits |= 1 << h;
            }
        }
        return bits;
    }

    /** In heard: by how many of the HANDS that may be (bits) the CLOCK BEATS in each TICK. */
    private void listenForAll(int c, int may) {
        Arrays.fill(heard, 0);
        for (int h = 0; h < now.periodOf[c]; h++) {
            if (!isBitSet(may, h)) {
                continue;
            }
            tryHand(c, h);
            for (int t = 0; t <= LAST_SEEN_TICK; t++) {
                heard[t] += trial.step(false) >> c & 1;
            }
        }
    }

    /** Of the 10 to the n ways that n TICKS may go, how many hold the beam in just the TICKS held (bits). */
    private static long weightOf(int held, int v, int n) {
        int times = Integer.bitCount(held);
        return powerOf(v, times) * powerOf(TEN - v, n - times);
    }

    private static long powerOf(int base, int times) {
        long power = 1;
        for (int i = 0; i < times; i++) {
            power *= base;
        }
        return power;
    }

    private static long fraction(long above, long below, int what) {
        long common = commonDivisor(above, below);
        if (common == 0) {
            return 0;
        }
        return (what == 0 ? above : below) / common;
    }

    private static long commonDivisor(long a, long b) {
        long more = a;
        long less = b;
        for (int i = 0; i < 200 && less != 0; i++) {
            long rest = more % less;
            more = less;
            less = rest;
        }
        return more;
    }

    /** CLOCKS, PUSH and TICK: what an IMAGE has, and what is tried out. */
    private static final class Beam {
        final int[] kindOf = new int[MOST_CLOCKS];
        final int[] periodOf = new int[MOST_CLOCKS];
        final int[] handOf = new int[MOST_CLOCKS];
        final int[] beatenBy = new int[MOST_CLOCKS];
        int clocks;
        int push = FIRST_PUSH;
        int tick;

        void empty() {
            clocks = 0;
            push = FIRST_PUSH;
            tick = 0;
        }

        void takeFrom(Beam other) {
            clocks = other.clocks;
            push = other.push;
            tick = other.tick;
            System.arraycopy(other.kindOf, 0, kindOf, 0, MOST_CLOCKS);
            System.arraycopy(other.periodOf, 0, periodOf, 0, MOST_CLOCKS);
            System.arraycopy(other.handOf, 0, handOf, 0, MOST_CLOCKS);
            System.arraycopy(other.beatenBy, 0, beatenBy, 0, MOST_CLOCKS);
        }

        void addClock(int kind, int period, int hand) {
            if (clocks >= MOST_CLOCKS) {
                return;
            }
            kindOf[clocks] = kind;
            periodOf[clocks] = period;
            handOf[clocks] = hand;
            beatenBy[clocks] = 0;
            clocks++;
        }

        void takeAway(int gone) {
            for (int c = gone; c + 1 < clocks; c++) {
                kindOf[c] = kindOf[c + 1];
                periodOf[c] = periodOf[c + 1];
                handOf[c] = handOf[c + 1];
                beatenBy[c] = beatenBy[c + 1];
            }
            clocks--;
        }

        int alterKind(int c, int v) {
            if (!isWithin(v, PLAIN, SHY)) {
                return BAD;
            }
            int was = kindOf[c];
            kindOf[c] = v;
            return was;
        }

        int alterPeriod(int c, int v) {
            if (!isWithin(v, LEAST_PERIOD, MOST_PERIOD)) {
                return BAD;
            }
            if (handOf[c] >= v) {
                return STATE;
            }
            int was = periodOf[c];
            periodOf[c] = v;
            return was;
        }

        int alterHand(int c, int v) {
            if (!isWithin(v, 0, MOST_HAND)) {
                return BAD;
            }
            if (v >= periodOf[c]) {
                return STATE;
            }
            int was = handOf[c];
            handOf[c] = v;
            return was;
        }

        boolean takesHand(int c, int v) {
            return isWithin(c, 0, clocks - 1) && alterHand(c, v) >= 0;
        }

        int shove(int c, int many) {
            switch (kindOf[c]) {
                case PLAIN:
                    return many * push;
                case HEAVY:
                    return (many - 1) * push;
                default:
                    return many * push / 2;
            }
        }

        boolean goesOn(int c) {
            return kindOf[c] != SHY && 2 * handOf[c] >= periodOf[c];
        }

        /** The CLOCK is PUSHED. */
        void shift(int c, int many) {
            int by = shove(c, many);
            handOf[c] = goesOn(c) ? Math.min(handOf[c] + by, periodOf[c] - 1) : Math.max(handOf[c] - by, 0);
        }

        /** A TICK: who BEATS (bits). */
        int step(boolean held) {
            int who = moveHands();
            if (who != 0 && !held) {
                shake(who);
            }
            tick++;
            return who;
        }

        private int moveHands() {
            int who = 0;
            for (int c = 0; c < clocks; c++) {
                handOf[c]++;
                if (handOf[c] >= periodOf[c]) {
                    handOf[c] = 0;
                    beatenBy[c]++;
                    who |= 1 << c;
                }
            }
            return who;
        }

        private void shake(int who) {
            int many = Integer.bitCount(who);
            for (int c = 0; c < clocks; c++) {
                if (!isBitSet(who, c)) {
                    shift(c, many);
                }
            }
        }

        /** n TICKS: how many BEATS are in them. */
        int stepMany(int n) {
            return stepHeld(n, 0);
        }

        /** n TICKS, the beam held in those whose bit is set (of the first 32): how many BEATS are in them. */
        int stepHeld(int n, int held) {
            int sum = 0;
            for (int t = 0; t < n; t++) {
                sum += Integer.bitCount(step(t < 32 && isBitSet(held, t)));
            }
            return sum;
        }

        int everyClock() {
            return (1 << clocks) - 1;
        }

        int firstTogether(int last) {
            if (clocks == 0) {
                return NONE;
            }
            int all = everyClock();
            for (int t = 0; t <= last; t++) {
                if (step(false) == all) {
                    return t;
                }
            }
            return NONE;
        }

        boolean hasHandsOf(Beam other) {
            for (int c = 0; c < clocks; c++) {
                if (handOf[c] != other.handOf[c]) {
                    return false;
                }
            }
            return true;
        }

        int sumOfHands() {
            int sum = 0;
            for (int c = 0; c < clocks; c++) {
                sum += handOf[c];
            }
            return sum;
        }
    }

    /** The choice by which all BEAT TOGETHER first soonest, of those that were offered. */
    private static final class Best {
        int choice;
        int tick;
        int last;

        void restart(int lastTick) {
            choice = NONE;
            tick = NONE;
            last = lastTick;
        }

        void offer(int some, Beam beam) {
            int t = beam.firstTogether(last);
            if (t != NONE) {
                choice = some;
                tick = t;
                // Later ones must be sooner than this one: of several the first stays.
                last = t - 1;
            }
        }

        int answer(int what) {
            return what == 0 ? choice : tick;
        }
    }

    /** What is SEEN. */
    private static final class Seen {
        final int[] ticksOf = new int[MOST_SEEN];
        final int[] clocksOf = new int[MOST_SEEN];
        final int[] values = new int[MOST_SEEN];
        int size;

        void add(int tick, int c, int v) {
            if (size >= MOST_SEEN) {
                return;
            }
            ticksOf[size] = tick;
            clocksOf[size] = c;
            values[size] = v;
            size++;
        }

        /** Whether all is as SEEN as this beam goes on (its TICKS are used up by it). */
        boolean fits(Beam beam) {
            int last = lastTick();
            for (int t = 0; t <= last; t++) {
                if (!fitsIn(t, beam.step(false))) {
                    return false;
                }
            }
            return true;
        }

        private boolean fitsIn(int tick, int who) {
            for (int i = 0; i < size; i++) {
                // A CLOCK that is there no more has no bit in who: it BEATS never.
                if (ticksOf[i] == tick && (who >> clocksOf[i] & 1) != values[i]) {
                    return false;
                }
            }
            return true;
        }

        private int lastTick() {
            int last = -1;
            for (int i = 0; i < size; i++) {
                last = Math.max(last, ticksOf[i]);
            }
            return last;
        }
    }

    /** A row of CELLS in a lane, or nothing. */
    private static final class Sheet {
        final int[] row = new int[MOST_CELLS];
        int lane = NOTHING;
        int cells;

        void begin(int newLane, int n) {
            lane = newLane;
            cells = n;
            Arrays.fill(row, 0);
        }

        int faultAt(int i) {
            if (lane == NOTHING) {
                return FAULT_NULL;
            }
            return i < 0 || i >= cells ? FAULT_INDEX : 0;
        }

        /** What the machine finds as CELLS i and i + 1 are read of this SHEET, taken as of a lane. */
        int faultOfPair(int asLane, int i) {
            if (lane != NOTHING && lane != asLane) {
                return FAULT_CAST;
            }
            int found = faultAt(i);
            return found != 0 ? found : faultAt(i + 1);
        }

        void put(int i, int v) {
            switch (lane) {
                case BYTES:
                    row[i] = (byte) v;
                    break;
                case SHORTS:
                    row[i] = (short) v;
                    break;
                default:
                    row[i] = v;
                    break;
            }
        }
    }

    /** THE TAPE, and how it is read TOKEN by TOKEN. */
    private static final class Reader {
        private static final int END = 0, NAME = 1, NUMBER = 2, SEMICOLON = 3;
        private static final int PUSH_LINE = 4, NO_LINE = 5;

        final byte[] tape = new byte[MOST_BYTES];
        int length;
        int fault;
        int place;
        int lines;
        private int at;
        private int sort;
        private int first;
        private boolean pushTold;

        /** Reads THE TAPE onto an empty beam, up to its first FAULT. */
        void readText(Beam told) {
            fault = 0;
            place = 0;
            lines = 0;
            at = 0;
            pushTold = false;
            nextToken();
            for (int i = 0; i < MOST_BYTES && fault == 0 && sort != END; i++) {
                readLine(told);
                nextToken();
            }
        }

        private void readLine(Beam told) {
            int line = lineNamed();
            if (line == NO_LINE) {
                refuse(NOT_THERE);
            } else if (line == PUSH_LINE) {
                readPush(told);
            } else {
                readClock(told, line);
            }
            lines++;
        }

        private void readPush(Beam told) {
            if (pushTold) {
                refuse(SECOND_PUSH);
                return;
            }
            pushTold = true;
            told.push = readNumber(0, MOST_PUSH);
            readSemicolon();
        }

        private void readClock(Beam told, int kind) {
            if (told.clocks >= MOST_CLOCKS) {
                refuse(SIXTH_CLOCK);
                return;
            }
            int period = readNumber(LEAST_PERIOD, MOST_PERIOD);
            int hand = readNumber(0, period - 1);
            readSemicolon();
            if (fault == 0) {
                told.addClock(kind, period, hand);
            }
        }

        private int readNumber(int least, int most) {
            nextToken();
            if (fault != 0) {
                return least;
            }
            if (sort != NUMBER) {
                refuse(NOT_THERE);
                return least;
            }
            int v = numberRead();
            if (!isWithin(v, least, most)) {
                refuse(OUT_OF_BOUNDS);
            }
            return v;
        }

        private void readSemicolon() {
            nextToken();
            if (fault == 0 && sort != SEMICOLON) {
                refuse(NOT_THERE);
            }
        }

        /** The TOKEN from first up to at is the next one; the end of THE TAPE is one too. */
        private void nextToken() {
            if (fault != 0) {
                return;
            }
            while (at < length && tape[at] == ' ') {
                at++;
            }
            first = at;
            if (at >= length) {
                sort = END;
            } else if (tape[at] == ';') {
                sort = SEMICOLON;
                at++;
            } else if (isWithin(tape[at], 'a', 'z')) {
                sort = NAME;
                passBytes('a', 'z');
            } else {
                sort = NUMBER;
                passBytes('0', '9');
                if (at == first || at - first > 2) {
                    refuse(NO_TOKEN);
                }
            }
        }

        private void passBytes(int least, int most) {
            while (at < length && tape[at] >= least && tape[at] <= most) {
                at++;
            }
        }

        private int numberRead() {
            int v = 0;
            for (int i = first; i < at; i++) {
                v = v * 10 + tape[i] - '0';
            }
            return v;
        }

        private int lineNamed() {
            if (isName("plain")) {
                return PLAIN;
            }
            if (isName("soft")) {
                return SOFT;
            }
            if (isName("heavy")) {
                return HEAVY;
            }
            if (isName("shy")) {
                return SHY;
            }
            return isName("push") ? PUSH_LINE : NO_LINE;
        }

        private boolean isName(String name) {
            if (sort != NAME || at - first != name.length()) {
                return false;
            }
            for (int i = 0; i < name.length(); i++) {
                if (tape[first + i] != name.charAt(i)) {
                    return false;
                }
            }
            return true;
        }

        private void refuse(int why) {
            fault = why;
            place = first;
        }
    }
}
