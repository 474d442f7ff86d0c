import java.util.Random;

/**
 * Each question of what would be, or would be best, against what comes of it when it is really done, by the plain calls
 * (hang, alter, push, knock, ticks, rule, clock), to objects made alike.
 */
public final class TryTest {
    private static final int SETS = 40;
    private static final int NONE = BeamClocks.NONE;

    private static Random random;
    private static String set;
    private static int[][] clocks;
    private static int push, ahead;
    private static int[][] seen;

    private interface Change {
        void on(BeamClocks x, int v);
    }

    public static void main(String[] args) {
        for (int s = 0; s < SETS; s++) {
            random = new Random(s * 15485863L + 3);
            set = "set " + s;
            someClocks(s % 6);
            byTicks();
            force();
            away();
            mean();
            drift();
            for (int c = 0; c < clocks.length; c++) {
                best(c);
                asSeen(c);
                ask(c);
                luck(c);
            }
        }
        Due.close("TryTest");
    }

    private static void be(String call, long got, long want) {
        Due.be(set + ": " + call, got, want);
    }

    private static void someClocks(int many) {
        push = random.nextInt(6);
        ahead = random.nextInt(60);
        seen = new int[0][];
        clocks = new int[many][];
        int longest = random.nextBoolean() ? 30 : 5;
        for (int c = 0; c < many; c++) {
            int period = 2 + random.nextInt(longest - 1);
            clocks[c] = new int[] {random.nextInt(4), period, random.nextInt(period)};
        }
        if (many > 0) {
            int[][] heard = new int[random.nextInt(6)][];
            for (int i = 0; i < heard.length; i++) {
                int n = random.nextInt(30);
                int c = random.nextInt(many);
                // Mostly what will be, so that something is left.
                heard[i] = new int[] {n, c, random.nextInt(8) == 0 ? 1 : behind(n).rule(4) >> c & 1};
            }
            seen = heard;
        }
    }

    /** A new object of this set. It is hung, not told by a text, and nothing has been asked of it yet. */
    private static BeamClocks made() {
        BeamClocks x = new BeamClocks();
        for (int c = 0; c < clocks.length; c++) {
            x.hang(clocks[c][0], clocks[c][1]);
            x.alter(c, 2, clocks[c][2]);
        }
        x.push(push);
        x.ticks(ahead);
        for (int[] h : seen) {
            x.see(h[0], h[1], h[2]);
        }
        return x;
    }

    private static BeamClocks behind(int n) {
        BeamClocks x = made();
        for (int left = n; left > 0; left -= 100) {
            x.ticks(Math.min(left, 100));
        }
        return x;
    }

    private static int handOf(int c) {
        return made().clock(c, 2);
    }

    private static void byTicks() {
        int[] who = new int[301];
        int together = NONE, again = NONE, all = (1 << clocks.length) - 1;
        for (int n = 300; n >= 0; n--) {
            BeamClocks x = behind(n);
            who[n] = x.rule(4);
            together = who[n] == all && all != 0 ? n : together;
            again = n > 0 && sameHands(x) ? n : again;
        }
        be("together()", made().together(), together);
        be("again()", made().again(), again);
        int[] numbers = {0, 1, 2, 31, 32, 33, 34, 64, 65, 299, 300, random.nextInt(301)};
        for (int n : numbers) {
            be("beats(" + n + ")", made().beats(n), who[n]);
            runs(n, who, all);
        }
    }

    private static boolean sameHands(BeamClocks x) {
        BeamClocks first = made();
        for (int c = 0; c < clocks.length; c++) {
            if (x.clock(c, 2) != first.clock(c, 2)) {
                return false;
            }
        }
        return true;
    }

    private static void runs(int n, int[] who, int all) {
        int[] due = new int[5];
        int[] each = new int[clocks.length];
        for (int t = 0; t < n; t++) {
            int many = Integer.bitCount(who[t]);
            due[0] += many;
            due[1] += many > 0 ? 1 : 0;
            due[2] = Math.max(due[2], many);
            due[3] += many > 0 && who[t] == all ? 1 : 0;
            for (int c = 0; c < clocks.length; c++) {
                each[c] += who[t] >> c & 1;
            }
        }
        due[4] = behind(n).rule(5);
        for (int what = 0; what < 5; what++) {
            be("runs(" + n + ", " + what + ")", made().runs(n, what), due[what]);
        }
        for (int c = 0; c < clocks.length; c++) {
            be("ahead(" + c + ", " + n + ", 0)", made().ahead(c, n, 0), behind(n).clock(c, 2));
            be("ahead(" + c + ", " + n + ", 1)", made().ahead(c, n, 1), each[c]);
        }
    }

    /** The soonest of what is tried, below a tick: the choice and its tick. */
    private static int[] soonest(int least, int most, Change change) {
        int[] best = {NONE, NONE};
        for (int v = least; v <= most; v++) {
            BeamClocks x = made();
            change.on(x, v);
            int t = x.together();
            if (t != NONE && (best[0] == NONE || t < best[1])) {
                best = new int[] {v, t};
            }
        }
        return best;
    }

    private static Change toPeriod(int c) {
        return (x, p) -> {
            if (x.clock(c, 2) >= p) {
                Due.hold("the hand goes down", x.alter(c, 2, p - 1) >= p);
            }
            Due.hold("the period is taken", x.alter(c, 1, p) > 0);
        };
    }

    private static Change toHand(int c) {
        return (x, h) -> Due.hold("the hand is taken", x.alter(c, 2, h) >= 0);
    }

    private static Change toKind(int c) {
        return (x, k) -> Due.hold("the kind is taken", x.alter(c, 0, k) == clocks[c][0]);
    }

    private static void best(int c) {
        int[] period = soonest(2, 30, toPeriod(c));
        int[] hand = soonest(0, clocks[c][1] - 1, toHand(c));
        int[] kind = soonest(0, 3, toKind(c));
        for (int what = 0; what < 2; what++) {
            be("period(" + c + ", " + what + ")", made().period(c, what), period[what]);
            be("hand(" + c + ", " + what + ")", made().hand(c, what), hand[what]);
            be("kind(" + c + ", " + what + ")", made().kind(c, what), kind[what]);
        }
    }

    private static void force() {
        int[] best = soonest(0, 5, BeamClocks::push);
        be("force(0)", made().force(0), best[0]);
        be("force(1)", made().force(1), best[1]);
    }

    private static void away() {
        BeamClocks all = made();
        int asItIs = all.together();
        int choice = NONE, tick = NONE;
        for (int c = 0; c < clocks.length; c++) {
            int t = without(all, c).together();
            boolean sooner = asItIs == NONE || t < asItIs;
            if (t != NONE && sooner && (tick == NONE || t < tick)) {
                choice = c;
                tick = t;
            }
        }
        be("away(0)", made().away(0), choice);
        be("away(1)", made().away(1), tick);
    }

    private static BeamClocks without(BeamClocks all, int gone) {
        BeamClocks x = new BeamClocks();
        for (int c = 0; c < clocks.length; c++) {
            if (c != gone) {
                int there = x.hang(all.clock(c, 0), all.clock(c, 1));
                x.alter(there - 1, 2, all.clock(c, 2));
            }
        }
        x.push(push);
        return x;
    }

    private static int fitting(int least, int most, Change change) {
        int bits = 0;
        for (int v = least; v <= most; v++) {
            boolean fits = true;
            for (int[] h : seen) {
                BeamClocks x = made();
                change.on(x, v);
                x.ticks(h[0]);
                fits = fits && (x.rule(4) >> h[1] & 1) == h[2];
            }
            bits |= fits ? 1 << v : 0;
        }
        return bits;
    }

    private static void asSeen(int c) {
        be("kinds(" + c + ")", made().kinds(c), fitting(0, 3, toKind(c)));
        be("periods(" + c + ")", made().periods(c), fitting(2, 30, toPeriod(c)));
        be("hands(" + c + ")", made().hands(c), fitting(0, clocks[c][1] - 1, toHand(c)));
    }

    private static void ask(int c) {
        BeamClocks x = made();
        int fewest = Integer.bitCount(x.hands(c)), tick = NONE;
        for (int t = 0; t <= 60; t++) {
            int worst = 0;
            for (int v = 0; v < 2; v++) {
                x.see(t, c, v);
                worst = Math.max(worst, Integer.bitCount(x.hands(c)));
                x.forget(seen.length);
            }
            if (worst < fewest) {
                fewest = worst;
                tick = t;
            }
        }
        be("ask(" + c + ", 0)", made().ask(c, 0), tick);
        be("ask(" + c + ", 1)", made().ask(c, 1), tick == NONE ? NONE : fewest);
    }

    /** An object behind n ticks in those of which that are held (bits) PUSH was 0: nobody is pushed by that. */
    private static BeamClocks held(int n, int held) {
        BeamClocks x = made();
        for (int t = 0; t < n; t++) {
            x.push((held >> t & 1) != 0 ? 0 : push);
            x.ticks(1);
        }
        x.push(push);
        return x;
    }

    private static long weight(int v, int n, int held) {
        long weight = 1;
        for (int t = 0; t < n; t++) {
            weight *= (held >> t & 1) != 0 ? v : 10 - v;
        }
        return weight;
    }

    private static void odds(String call, long above, long below, long sum, int n) {
        long all = 1;
        for (int t = 0; t < n; t++) {
            all *= 10;
        }
        be(call + " below the line", below > 0 ? 1 : 0, 1);
        be(call + " is " + above + " by " + below, above * all, sum * below);
        for (long by = 2; by <= 5; by += 3) {
            Due.hold(set + ": " + call + " in lowest terms", above % by != 0 || below % by != 0);
        }
    }

    private static void luck(int c) {
        int n = random.nextInt(9);
        int v = random.nextInt(11);
        long sum = 0;
        for (int held = 0; held < 1 << n; held++) {
            sum += (held(n, held).rule(4) >> c & 1) * weight(v, n, held);
        }
        String call = "luck(" + v + ", " + c + ", " + n + ")";
        odds(call, made().luck(v, c, n, 0), made().luck(v, c, n, 1), sum, n);
    }

    private static void mean() {
        int n = random.nextInt(9);
        int v = random.nextInt(11);
        long sum = 0;
        for (int held = 0; held < 1 << n; held++) {
            sum += (held(n, held).rule(3) - made().rule(3)) * weight(v, n, held);
        }
        odds("mean(" + v + ", " + n + ")", made().mean(v, n, 0), made().mean(v, n, 1), sum, n);
    }

    private static void drift() {
        if (clocks.length == 0) {
            be("drift of none", made().drift(1, 1, 0), BeamClocks.STATE);
            return;
        }
        int seed = random.nextInt();
        BeamClocks x = made();
        long bits = seed & 0xFFFFFFFFL;
        int beats = 0;
        for (int n = 1; n <= 100; n++) {
            bits = (bits * 1103515245L + 12345L) & 0xFFFFFFFFL;
            long got = bits / 65536 % 32768;
            x.knock((int) (got % clocks.length), (int) (1 + got / 8 % 5));
            beats += x.ticks(1);
            be("drift(" + seed + ", " + n + ", 0)", made().drift(seed, n, 0), beats);
            be("drift(" + seed + ", " + n + ", 1)", made().drift(seed, n, 1), x.rule(5));
        }
    }
}
