import java.util.Random;

/** Long random runs of calls, the program beside the model: each answer must be the same, and none may throw. */
public final class ModelTest {
    private static final int RUNS = 1600;
    // An object is used for 512 calls at most, and a text behind the last of these may take some 130 more.
    private static final int CALLS = 380;
    private static final int MOST_CALLS = 512;
    private static final int[] EDGES = {
        Integer.MIN_VALUE, Integer.MIN_VALUE + 1, -65536, -256, -2, -1, 31, 40, 41, 60, 61, 100, 101, 160, 161, 300, 301,
        10000, 65536, Integer.MAX_VALUE - 1, Integer.MAX_VALUE
    };

    private static Random random;
    private static BeamClocks x;
    private static Model m;
    private static String run;
    private static int calls;

    public static void main(String[] args) {
        for (int r = 0; r < RUNS; r++) {
            random = new Random(r * 7919L + 17);
            x = new BeamClocks();
            m = new Model();
            run = "run " + r;
            calls = 0;
            // Some runs live mostly on texts, sheets or odds, so that rare states are met too.
            int taste = random.nextInt(4);
            while (calls < CALLS) {
                anyCall(taste);
            }
            Due.hold(run + " is no longer than an object is used", calls <= MOST_CALLS);
        }
        Due.close("ModelTest");
    }

    private static int upTo(int most) {
        return random.nextInt(most + 1);
    }

    /** Mostly from least to most, at times just beside it or far off. */
    private static int near(int least, int most) {
        int dice = random.nextInt(60);
        if (dice == 0) {
            return EDGES[random.nextInt(EDGES.length)];
        }
        if (dice == 1) {
            return least - 1;
        }
        if (dice == 2) {
            return most + 1;
        }
        if (dice == 3) {
            return random.nextInt();
        }
        return least + random.nextInt(most - least + 1);
    }

    private static int clk() {
        int there = m.rule(0);
        return there == 0 ? near(0, 0) : near(0, there - 1);
    }

    private static void be(String call, long got, long want) {
        calls++;
        Due.be(run + ", call " + calls + ": " + call, got, want);
    }

    private static void anyCall(int taste) {
        int dice = random.nextInt(100);
        if (dice < (taste == 0 ? 30 : 5)) {
            aText();
        } else if (dice < (taste == 1 ? 60 : 20)) {
            sheets();
        } else if (dice < 50) {
            changes();
        } else if (dice < 70) {
            forecasts();
        } else if (dice < 80) {
            heard();
        } else {
            look();
        }
    }

    private static void aText() {
        String s = someText();
        for (int i = 0; i < s.length(); i++) {
            int c = s.charAt(i);
            be("feed(" + c + ")", x.feed(c), m.feed(c));
        }
        if (upTo(5) == 0) {
            int n = near(0, Math.max(0, m.count(2)));
            be("end(" + n + ")", x.end(n), m.end(n));
        }
        if (upTo(9) != 0) {
            be("text() of " + s, x.text(), m.text());
            be("fault()", x.fault(), m.fault());
        }
    }

    private static String someText() {
        String[] names = {"plain", "soft", "heavy", "shy"};
        StringBuilder s = new StringBuilder();
        int lines = upTo(upTo(3) == 0 ? 7 : 5);
        for (int i = 0; i < lines; i++) {
            int period = 2 + upTo(28);
            if (upTo(5) == 0) {
                s.append("push ").append(upTo(5));
            } else {
                s.append(names[upTo(3)]).append(blanks()).append(period).append(' ').append(upTo(period - 1));
            }
            s.append(blanks()).append(';').append(blanks());
        }
        for (int faults = upTo(3) == 0 ? 1 + upTo(1) : 0; faults > 0 && s.length() > 0; faults--) {
            spoil(s);
        }
        return s.toString();
    }

    private static String blanks() {
        return upTo(2) == 0 ? " ".repeat(upTo(2)) : "";
    }

    private static void spoil(StringBuilder s) {
        String signs = "a z09;;A\t!~`{/:\u0000\u007f12345 plain push";
        int at = upTo(s.length() - 1);
        char sign = signs.charAt(upTo(signs.length() - 1));
        switch (upTo(3)) {
            case 0 -> s.deleteCharAt(at);
            case 1 -> s.insert(at, sign);
            case 2 -> s.setCharAt(at, sign);
            default -> s.setLength(at);
        }
    }

    private static void changes() {
        int c = clk();
        switch (upTo(8)) {
            case 0, 1 -> {
                int what = near(0, 2);
                int v = what == 0 ? near(0, 3) : what == 1 ? near(2, 30) : near(0, 29);
                be("alter(" + c + ", " + what + ", " + v + ")", x.alter(c, what, v), m.alter(c, what, v));
            }
            case 2 -> {
                int v = near(0, 5);
                be("push(" + v + ")", x.push(v), m.push(v));
            }
            case 3, 4 -> {
                int kind = near(0, 3);
                int period = near(2, upTo(1) == 0 ? 30 : 6);
                be("hang(" + kind + ", " + period + ")", x.hang(kind, period), m.hang(kind, period));
            }
            case 5 -> {
                int n = near(Math.max(0, m.rule(0) - upTo(2)), m.rule(0));
                be("cut(" + n + ")", x.cut(n), m.cut(n));
            }
            case 6 -> {
                int many = near(1, 5);
                be("knock(" + c + ", " + many + ")", x.knock(c, many), m.knock(c, many));
            }
            default -> {
                int n = near(0, upTo(2) == 0 ? 100 : 9);
                be("ticks(" + n + ")", x.ticks(n), m.ticks(n));
            }
        }
    }

    private static void forecasts() {
        int n = near(0, upTo(1) == 0 ? 300 : 20);
        int c = clk();
        int what = near(0, 1);
        switch (upTo(9)) {
            case 0 -> {
                int w = near(0, 4);
                be("runs(" + n + ", " + w + ")", x.runs(n, w), m.runs(n, w));
            }
            case 1 -> be("ahead(" + c + ", " + n + ", " + what + ")", x.ahead(c, n, what), m.ahead(c, n, what));
            case 2 -> be("beats(" + n + ")", x.beats(n), m.beats(n));
            case 3 -> be("together()", x.together(), m.together());
            case 4 -> be("again()", x.again(), m.again());
            case 5 -> best(c, what);
            case 6 -> odds(c, what);
            case 7 -> be("force(" + what + ")", x.force(what), m.force(what));
            case 8 -> be("away(" + what + ")", x.away(what), m.away(what));
            default -> {
                int seed = random.nextInt();
                int many = near(1, 300);
                be("drift(" + seed + ", " + many + ", " + what + ")", x.drift(seed, many, what), m.drift(seed, many, what));
            }
        }
    }

    private static void best(int c, int what) {
        switch (upTo(2)) {
            case 0 -> be("period(" + c + ", " + what + ")", x.period(c, what), m.period(c, what));
            case 1 -> be("hand(" + c + ", " + what + ")", x.hand(c, what), m.hand(c, what));
            default -> be("kind(" + c + ", " + what + ")", x.kind(c, what), m.kind(c, what));
        }
    }

    private static void odds(int c, int what) {
        int v = near(0, 10);
        int n = near(0, 8);
        if (upTo(1) == 0) {
            be("luck(" + v + ", " + c + ", " + n + ", " + what + ")", x.luck(v, c, n, what), m.luck(v, c, n, what));
        } else {
            be("mean(" + v + ", " + n + ", " + what + ")", x.mean(v, n, what), m.mean(v, n, what));
        }
    }

    private static void heard() {
        int c = clk();
        int what = near(0, 1);
        switch (upTo(6)) {
            case 0, 1 -> {
                int n = near(0, 60);
                // Mostly what will be, so that something is left.
                int v = upTo(4) == 0 || c < 0 || c > 4 || n < 0 || n > 60 ? near(0, 1) : m.beats(n) >> c & 1;
                be("see(" + n + ", " + c + ", " + v + ")", x.see(n, c, v), m.see(n, c, v));
            }
            case 2 -> {
                int n = near(0, m.count(0));
                be("forget(" + n + ")", x.forget(n), m.forget(n));
            }
            case 3 -> be("kinds(" + c + ")", x.kinds(c), m.kinds(c));
            case 4 -> be("periods(" + c + ")", x.periods(c), m.periods(c));
            case 5 -> be("hands(" + c + ")", x.hands(c), m.hands(c));
            default -> {
                if (upTo(2) == 0) {
                    be("ask(" + c + ", " + what + ")", x.ask(c, what), m.ask(c, what));
                }
            }
        }
    }

    private static void sheets() {
        int k = near(0, upTo(1) == 0 ? 3 : 1);
        switch (upTo(9)) {
            case 0 -> {
                int lane = near(0, 2);
                int n = near(0, upTo(1) == 0 ? 40 : 5);
                be("sheet(" + k + ", " + lane + ", " + n + ")", x.sheet(k, lane, n), m.sheet(k, lane, n));
            }
            case 1, 2, 3 -> aPair(k);
            case 4 -> {
                int i = near(0, 40);
                int v = random.nextInt();
                be("lay(" + k + ", " + i + ", " + v + ")", x.lay(k, i, v), m.lay(k, i, v));
            }
            case 5, 6 -> {
                int lane = near(0, 2);
                int f = near(0, 8);
                int n = near(0, upTo(2) == 0 ? 20 : 3);
                be("read(" + k + ", " + lane + ", " + f + ", " + n + ")", x.read(k, lane, f, n), m.read(k, lane, f, n));
                be("torn()", x.torn(), m.torn());
            }
            case 7 -> {
                int i = near(0, 1);
                be("keep(" + i + ")", x.keep(i), m.keep(i));
            }
            case 8 -> {
                int i = near(0, 1);
                be("back(" + i + ")", x.back(i), m.back(i));
            }
            default -> be("torn()", x.torn(), m.torn());
        }
    }

    private static void aPair(int k) {
        int i = 2 * near(0, 6);
        int c = clk();
        int wide = upTo(3) == 0 ? 65536 * upTo(3) + 256 * upTo(3) : 0;
        int h = near(0, upTo(3) == 0 ? 29 : 3) + wide;
        be("lay(" + k + ", " + i + ", " + c + ")", x.lay(k, i, c), m.lay(k, i, c));
        be("lay(" + k + ", " + (i + 1) + ", " + h + ")", x.lay(k, i + 1, h), m.lay(k, i + 1, h));
    }

    private static void look() {
        int what = near(0, 5);
        int c = clk();
        switch (upTo(2)) {
            case 0 -> be("rule(" + what + ")", x.rule(what), m.rule(what));
            case 1 -> be("clock(" + c + ", " + what + ")", x.clock(c, what), m.clock(c, what));
            default -> be("count(" + what + ")", x.count(what), m.count(what));
        }
    }
}
