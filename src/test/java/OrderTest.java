import java.util.Random;

/**
 * What is true of a CLOCK is true of it wherever it hangs: the same clocks are hung in each order that comes by turning
 * the row, and each answer about a clock, asked by its place, must be the same. No second model of the document is
 * needed for this: the answers that PromisesTest holds for clock 0 hold for the others by it.
 */
public final class OrderTest {
    private static final int SETS = 60;

    private static Random random;
    private static int[][] clocks;
    private static int push;
    private static int[][] seen;

    public static void main(String[] args) {
        for (int s = 0; s < SETS; s++) {
            random = new Random(s * 104729L + 5);
            someClocks(1 + s % 5);
            for (int turn = 1; turn < clocks.length; turn++) {
                same("set " + s + " turned by " + turn, hung(0), hung(turn), turn);
            }
        }
        askedOfEach();
        Due.close("OrderTest");
    }

    private static void someClocks(int many) {
        push = random.nextInt(6);
        clocks = new int[many][];
        for (int c = 0; c < many; c++) {
            int period = 2 + random.nextInt(random.nextBoolean() ? 29 : 6);
            clocks[c] = new int[] {random.nextInt(4), period, random.nextInt(period)};
        }
        seen = new int[random.nextInt(4)][];
        BeamClocks x = hung(0, new int[0][]);
        for (int i = 0; i < seen.length; i++) {
            int n = random.nextInt(61);
            int c = random.nextInt(many);
            // What will be, so that something is left.
            seen[i] = new int[] {n, c, x.beats(n) >> c & 1};
        }
    }

    private static int placeOf(int c, int turn) {
        return (c + turn) % clocks.length;
    }

    private static BeamClocks hung(int turn) {
        return hung(turn, seen);
    }

    private static BeamClocks hung(int turn, int[][] heard) {
        BeamClocks x = new BeamClocks();
        for (int place = 0; place < clocks.length; place++) {
            int[] k = clocks[Math.floorMod(place - turn, clocks.length)];
            x.hang(k[0], k[1]);
            x.alter(place, 2, k[2]);
        }
        x.push(push);
        for (int[] h : heard) {
            x.see(h[0], placeOf(h[1], turn), h[2]);
        }
        return x;
    }

    private static void same(String of, BeamClocks x, BeamClocks y, int turn) {
        Due.be(of + ": together", y.together(), x.together());
        Due.be(of + ": again", y.again(), x.again());
        Due.be(of + ": mean", y.mean(3, 8, 0), x.mean(3, 8, 0));
        for (int what = 0; what < 2; what++) {
            Due.be(of + ": force", y.force(what), x.force(what));
        }
        Due.be(of + ": away", y.away(1), x.away(1));
        for (int what = 0; what < 5; what++) {
            Due.be(of + ": runs", y.runs(77, what), x.runs(77, what));
        }
        for (int c = 0; c < clocks.length; c++) {
            sameOfClock(of + ", clock " + c, x, c, y, placeOf(c, turn));
        }
        Due.be(of + ": ticks", y.ticks(23), x.ticks(23));
        for (int c = 0; c < clocks.length; c++) {
            ofClock(of + ", clock " + c + " 23 ticks later", x, c, y, placeOf(c, turn));
            int many = 1 + random.nextInt(5);
            Due.be(of + ": knock", y.knock(placeOf(c, turn), many), x.knock(c, many));
        }
        Due.be(of + ": hands knocked", y.rule(5), x.rule(5));
    }

    private static void sameOfClock(String of, BeamClocks x, int c, BeamClocks y, int d) {
        ofClock(of, x, c, y, d);
        for (int what = 0; what < 2; what++) {
            Due.be(of + ": ahead", y.ahead(d, 41, what), x.ahead(c, 41, what));
            Due.be(of + ": period", y.period(d, what), x.period(c, what));
            Due.be(of + ": hand", y.hand(d, what), x.hand(c, what));
            Due.be(of + ": kind", y.kind(d, what), x.kind(c, what));
            Due.be(of + ": luck", y.luck(7, d, 6, what), x.luck(7, c, 6, what));
            Due.be(of + ": ask", y.ask(d, what), x.ask(c, what));
        }
        Due.be(of + ": kinds", y.kinds(d), x.kinds(c));
        Due.be(of + ": periods", y.periods(d), x.periods(c));
        Due.be(of + ": hands", y.hands(d), x.hands(c));
        for (int n = 0; n < 20; n++) {
            Due.be(of + ": beats", y.beats(n) >> d & 1, x.beats(n) >> c & 1);
        }
    }

    private static void ofClock(String of, BeamClocks x, int c, BeamClocks y, int d) {
        for (int what = 0; what < 5; what++) {
            Due.be(of + ": clock", y.clock(d, what), x.clock(c, what));
        }
        Due.be(of + ": beats now", y.rule(4) >> d & 1, x.rule(4) >> c & 1);
    }

    /** Five clocks that do not push one another, each listened to by itself: numbers that can be told by hand. */
    private static void askedOfEach() {
        BeamClocks x = Due.told("plain 2 0;soft 3 0;heavy 4 0;shy 5 0;plain 6 0;push 0;");
        for (int c = 0; c < 5; c++) {
            Due.be("of " + (c + 2) + " hands one is left out, clock " + c, x.ask(c, 1), c + 1);
            Due.be("in this tick, clock " + c, x.ask(c, 0), 0);
            Due.be("it does not beat in it", x.see(0, c, 0), 1);
            Due.be("so it is listened to in the next, clock " + c, x.ask(c, 0), c == 0 ? BeamClocks.NONE : 1);
            Due.be("of " + (c + 1) + " hands one is left out, clock " + c, x.ask(c, 1), c == 0 ? BeamClocks.NONE : c);
            x.forget(0);
        }
    }
}
