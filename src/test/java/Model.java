import java.math.BigInteger;
import java.util.ArrayList;
import java.util.HashMap;
import java.util.List;
import java.util.Map;
import java.util.regex.Matcher;
import java.util.regex.Pattern;

/**
 * The document once more, written in another way than the program (library collections, real rows whose
 * faults the machine itself finds, odds as a spread over states), so that a slip in one shows against the other.
 */
final class Model {
    static final int BAD = -1, STATE = -2, FULL = -3, NONE = -4;

    private static final class Refused extends RuntimeException {
        private static final long serialVersionUID = 1;
        final int fault, place;

        Refused(int fault, int place) {
            super(null, null, false, false);
            this.fault = fault;
            this.place = place;
        }
    }

    private record Token(String text, int place) {
    }

    private record Heard(int tick, int clock, boolean beats) {
    }

    private static final class Clk {
        int kind, period, hand, beaten;

        Clk(int kind, int period, int hand, int beaten) {
            this.kind = kind;
            this.period = period;
            this.hand = hand;
            this.beaten = beaten;
        }

        Clk copy() {
            return new Clk(kind, period, hand, beaten);
        }

        boolean on() {
            return kind != 3 && hand >= period - hand;
        }

        void pushed(int many, int push) {
            int[] shoves = {many * push, Math.floorDiv(many * push, 2), many * push - push, Math.floorDiv(many * push, 2)};
            int to = on() ? hand + shoves[kind] : hand - shoves[kind];
            hand = to < 0 ? 0 : to >= period ? period - 1 : to;
        }
    }

    private static final class World {
        List<Clk> clks = new ArrayList<>();
        int push = 1, tick = 0;

        World copy() {
            World w = new World();
            for (Clk c : clks) {
                w.clks.add(c.copy());
            }
            w.push = push;
            w.tick = tick;
            return w;
        }

        List<Integer> tick(boolean held) {
            List<Integer> who = new ArrayList<>();
            for (int i = 0; i < clks.size(); i++) {
                Clk c = clks.get(i);
                c.hand = (c.hand + 1) % c.period;
                if (c.hand == 0) {
                    c.beaten++;
                    who.add(i);
                }
            }
            if (!who.isEmpty() && !held) {
                for (int i = 0; i < clks.size(); i++) {
                    if (!who.contains(i)) {
                        clks.get(i).pushed(who.size(), push);
                    }
                }
            }
            tick++;
            return who;
        }

        /** Who beats in each of so many ticks from now on; this world stays as it is. */
        List<List<Integer>> forecast(int n) {
            World w = copy();
            List<List<Integer>> all = new ArrayList<>();
            for (int t = 0; t < n; t++) {
                all.add(w.tick(false));
            }
            return all;
        }

        World after(int n) {
            World w = copy();
            for (int t = 0; t < n; t++) {
                w.tick(false);
            }
            return w;
        }

        int together() {
            List<List<Integer>> all = forecast(301);
            for (int t = 0; t <= 300; t++) {
                if (!clks.isEmpty() && all.get(t).size() == clks.size()) {
                    return t;
                }
            }
            return NONE;
        }

        List<Integer> handsNow() {
            List<Integer> hands = new ArrayList<>();
            for (Clk c : clks) {
                hands.add(c.hand);
            }
            return hands;
        }

        int sumOfHands() {
            return handsNow().stream().mapToInt(Integer::intValue).sum();
        }
    }

    private World world = new World();
    private final World[] images = new World[2];
    private final List<Heard> seen = new ArrayList<>();
    private final Object[] sheets = new Object[4];
    private StringBuilder tape = new StringBuilder();
    private int textFault = 0, torn = 0;

    int feed(int c) {
        if (c < 0 || c > 127) {
            return BAD;
        }
        if (tape.length() == 160) {
            return FULL;
        }
        return tape.append((char) c).length();
    }

    int end(int n) {
        if (n < 0 || n > tape.length()) {
            return BAD;
        }
        int had = tape.length();
        tape.setLength(n);
        return had;
    }

    int text() {
        String s = tape.toString();
        tape = new StringBuilder();
        try {
            World w = new World();
            int lines = tell(s, w);
            world = w;
            seen.clear();
            images[0] = null;
            images[1] = null;
            textFault = 0;
            return lines;
        } catch (Refused r) {
            textFault = r.fault;
            return -10 - r.place;
        }
    }

    private static List<Token> tokens(String s) {
        List<Token> all = new ArrayList<>();
        Matcher m = Pattern.compile("[a-z]+|[0-9]+|;|[^ ]").matcher(s);
        while (m.find()) {
            all.add(new Token(m.group(), m.start()));
        }
        all.add(new Token("", s.length()));
        return all;
    }

    private static Token legal(List<Token> all) {
        Token t = all.get(0);
        if (!t.text.matches("|[a-z]+|[0-9]{1,2}|;")) {
            throw new Refused(1, t.place);
        }
        return t;
    }

    private static int number(List<Token> all, int least, int most) {
        Token t = legal(all);
        if (!t.text.matches("[0-9]+")) {
            throw new Refused(2, t.place);
        }
        int v = Integer.parseInt(t.text);
        if (v < least || v > most) {
            throw new Refused(3, t.place);
        }
        all.remove(0);
        return v;
    }

    private static void stop(List<Token> all) {
        Token t = legal(all);
        if (!t.text.equals(";")) {
            throw new Refused(2, t.place);
        }
        all.remove(0);
    }

    private static int tell(String s, World w) {
        List<Token> all = tokens(s);
        List<String> names = List.of("plain", "soft", "heavy", "shy");
        boolean pushed = false;
        int lines = 0;
        while (true) {
            Token t = legal(all);
            if (t.text.isEmpty()) {
                return lines;
            }
            boolean isPush = t.text.equals("push");
            if (!isPush && !names.contains(t.text)) {
                throw new Refused(2, t.place);
            }
            if (isPush && pushed) {
                throw new Refused(4, t.place);
            }
            if (!isPush && w.clks.size() == 5) {
                throw new Refused(5, t.place);
            }
            all.remove(0);
            if (isPush) {
                pushed = true;
                w.push = number(all, 0, 5);
            } else {
                int period = number(all, 2, 30);
                w.clks.add(new Clk(names.indexOf(t.text), period, number(all, 0, period - 1), 0));
            }
            stop(all);
            lines++;
        }
    }

    int fault() {
        return textFault;
    }

    private static int bits(List<Integer> who) {
        int bits = 0;
        for (int c : who) {
            bits += 1 << c;
        }
        return bits;
    }

    private boolean no(int c) {
        return c < 0 || c >= world.clks.size();
    }

    private static boolean out(int v, int least, int most) {
        return v < least || v > most;
    }

    int rule(int what) {
        return switch (what) {
            case 0 -> world.clks.size();
            case 1 -> world.push;
            case 2 -> world.tick;
            case 3 -> world.clks.stream().mapToInt(c -> c.beaten).sum();
            case 4 -> bits(world.forecast(1).get(0));
            case 5 -> world.sumOfHands();
            default -> BAD;
        };
    }

    int clock(int c, int what) {
        if (no(c)) {
            return BAD;
        }
        Clk k = world.clks.get(c);
        return switch (what) {
            case 0 -> k.kind;
            case 1 -> k.period;
            case 2 -> k.hand;
            case 3 -> k.beaten;
            case 4 -> k.on() ? 1 : 0;
            default -> BAD;
        };
    }

    private static int alter(World w, int c, int what, int v) {
        if (c < 0 || c >= w.clks.size() || out(what, 0, 2)) {
            return BAD;
        }
        Clk k = w.clks.get(c);
        int[] least = {0, 2, 0};
        int[] most = {3, 30, 29};
        if (out(v, least[what], most[what])) {
            return BAD;
        }
        int period = what == 1 ? v : k.period;
        int hand = what == 2 ? v : k.hand;
        if (hand >= period) {
            return STATE;
        }
        int was = what == 0 ? k.kind : what == 1 ? k.period : k.hand;
        k.kind = what == 0 ? v : k.kind;
        k.period = period;
        k.hand = hand;
        return was;
    }

    int alter(int c, int what, int v) {
        return alter(world, c, what, v);
    }

    int push(int v) {
        if (out(v, 0, 5)) {
            return BAD;
        }
        int was = world.push;
        world.push = v;
        return was;
    }

    int hang(int kind, int period) {
        if (out(kind, 0, 3) || out(period, 2, 30)) {
            return BAD;
        }
        if (world.clks.size() == 5) {
            return FULL;
        }
        world.clks.add(new Clk(kind, period, 0, 0));
        return world.clks.size();
    }

    int cut(int n) {
        int had = world.clks.size();
        if (out(n, 0, had)) {
            return BAD;
        }
        world.clks = new ArrayList<>(world.clks.subList(0, n));
        return had;
    }

    int knock(int c, int many) {
        if (no(c) || out(many, 1, 5)) {
            return BAD;
        }
        world.clks.get(c).pushed(many, world.push);
        return world.clks.get(c).hand;
    }

    int ticks(int n) {
        if (out(n, 0, 100)) {
            return BAD;
        }
        if (world.tick + n > 9999) {
            return FULL;
        }
        int sum = runs(n, 0);
        world = world.after(n);
        return sum;
    }

    int runs(int n, int what) {
        if (out(n, 0, 300) || out(what, 0, 4)) {
            return BAD;
        }
        List<List<Integer>> all = world.forecast(n);
        int clks = world.clks.size();
        return switch (what) {
            case 0 -> all.stream().mapToInt(List::size).sum();
            case 1 -> (int) all.stream().filter(w -> !w.isEmpty()).count();
            case 2 -> all.stream().mapToInt(List::size).max().orElse(0);
            case 3 -> (int) all.stream().filter(w -> !w.isEmpty() && w.size() == clks).count();
            default -> world.after(n).sumOfHands();
        };
    }

    int ahead(int c, int n, int what) {
        if (no(c) || out(n, 0, 300) || out(what, 0, 1)) {
            return BAD;
        }
        return what == 0 ? world.after(n).clks.get(c).hand
            : (int) world.forecast(n).stream().filter(w -> w.contains(c)).count();
    }

    int beats(int n) {
        return out(n, 0, 300) ? BAD : bits(world.forecast(n + 1).get(n));
    }

    int together() {
        return world.together();
    }

    int again() {
        World w = world.copy();
        for (int t = 1; t <= 300; t++) {
            w.tick(false);
            if (w.handsNow().equals(world.handsNow())) {
                return t;
            }
        }
        return NONE;
    }

    private interface Change {
        void on(World w, int v);
    }

    private int best(int least, int most, int below, int what, Change change) {
        int choice = NONE, soonest = below;
        for (int v = most; v >= least; v--) {
            World w = world.copy();
            change.on(w, v);
            int t = w.together();
            if (t != NONE && t <= soonest && t < below) {
                choice = v;
                soonest = t;
            }
        }
        return choice == NONE || what == 0 ? choice : soonest;
    }

    private static Change ofPeriod(int c) {
        return (w, v) -> {
            w.clks.get(c).period = v;
            if (w.clks.get(c).hand >= v) {
                w.clks.get(c).hand = v - 1;
            }
        };
    }

    private static Change ofHand(int c) {
        return (w, v) -> w.clks.get(c).hand = v;
    }

    private static Change ofKind(int c) {
        return (w, v) -> w.clks.get(c).kind = v;
    }

    int period(int c, int what) {
        return no(c) || out(what, 0, 1) ? BAD : best(2, 30, 1000, what, ofPeriod(c));
    }

    int hand(int c, int what) {
        return no(c) || out(what, 0, 1) ? BAD : best(0, world.clks.get(c).period - 1, 1000, what, ofHand(c));
    }

    int kind(int c, int what) {
        return no(c) || out(what, 0, 1) ? BAD : best(0, 3, 1000, what, ofKind(c));
    }

    int force(int what) {
        return out(what, 0, 1) ? BAD : best(0, 5, 1000, what, (w, v) -> w.push = v);
    }

    int away(int what) {
        int now = world.together();
        return out(what, 0, 1) ? BAD
            : best(0, world.clks.size() - 1, now == NONE ? 1000 : now, what, (w, v) -> w.clks.remove(v));
    }

    private static long part(BigInteger above, BigInteger below, int what) {
        BigInteger by = above.gcd(below);
        return (what == 0 ? above : below).divide(by).longValueExact();
    }

    /** Over all ways the beam may be held: the weights of each state of the hands, and the beats summed by weight. */
    private BigInteger spread(int v, int n, Map<List<Integer>, BigInteger> states) {
        BigInteger beats = BigInteger.ZERO;
        states.put(world.handsNow(), BigInteger.ONE);
        for (int t = 0; t < n; t++) {
            Map<List<Integer>, BigInteger> next = new HashMap<>();
            BigInteger later = BigInteger.TEN.pow(n - t - 1);
            for (Map.Entry<List<Integer>, BigInteger> e : states.entrySet()) {
                for (int held = 0; held < 2; held++) {
                    World w = withHands(e.getKey());
                    BigInteger weight = e.getValue().multiply(BigInteger.valueOf(held == 1 ? v : 10 - v));
                    int many = w.tick(held == 1).size();
                    beats = beats.add(weight.multiply(later).multiply(BigInteger.valueOf(many)));
                    next.merge(w.handsNow(), weight, BigInteger::add);
                }
            }
            states.clear();
            states.putAll(next);
        }
        return beats;
    }

    private World withHands(List<Integer> hands) {
        World w = world.copy();
        for (int i = 0; i < hands.size(); i++) {
            w.clks.get(i).hand = hands.get(i);
        }
        return w;
    }

    long luck(int v, int c, int n, int what) {
        if (out(v, 0, 10) || no(c) || out(n, 0, 8) || out(what, 0, 1)) {
            return BAD;
        }
        Map<List<Integer>, BigInteger> states = new HashMap<>();
        spread(v, n, states);
        BigInteger sum = BigInteger.ZERO;
        for (Map.Entry<List<Integer>, BigInteger> e : states.entrySet()) {
            if (withHands(e.getKey()).tick(false).contains(c)) {
                sum = sum.add(e.getValue());
            }
        }
        return part(sum, BigInteger.TEN.pow(n), what);
    }

    long mean(int v, int n, int what) {
        if (out(v, 0, 10) || out(n, 0, 8) || out(what, 0, 1)) {
            return BAD;
        }
        return part(spread(v, n, new HashMap<>()), BigInteger.TEN.pow(n), what);
    }

    int see(int n, int c, int v) {
        if (out(n, 0, 60) || no(c) || out(v, 0, 1)) {
            return BAD;
        }
        if (seen.size() == 6) {
            return FULL;
        }
        seen.add(new Heard(n, c, v == 1));
        return seen.size();
    }

    int forget(int n) {
        int had = seen.size();
        if (out(n, 0, had)) {
            return BAD;
        }
        seen.subList(n, had).clear();
        return had;
    }

    private int asSeen(int least, int most, Change change) {
        int bits = 0;
        for (int v = least; v <= most; v++) {
            World w = world.copy();
            change.on(w, v);
            List<List<Integer>> all = w.forecast(61);
            boolean fits = seen.stream().allMatch(h -> all.get(h.tick).contains(h.clock) == h.beats);
            bits |= fits ? 1 << v : 0;
        }
        return bits;
    }

    int kinds(int c) {
        return no(c) ? BAD : asSeen(0, 3, ofKind(c));
    }

    int periods(int c) {
        return no(c) ? BAD : asSeen(2, 30, ofPeriod(c));
    }

    int hands(int c) {
        return no(c) ? BAD : asSeen(0, world.clks.get(c).period - 1, ofHand(c));
    }

    /** Really listens: what is left of hands() if it beats, if it does not. */
    int ask(int c, int what) {
        if (no(c) || out(what, 0, 1)) {
            return BAD;
        }
        int may = hands(c);
        int fewest = Integer.bitCount(may), at = NONE;
        for (int t = 0; t <= 60; t++) {
            int worst = 0;
            for (int v = 0; v < 2; v++) {
                seen.add(new Heard(t, c, v == 1));
                worst = Math.max(worst, Integer.bitCount(hands(c)));
                seen.remove(seen.size() - 1);
            }
            if (worst < fewest) {
                fewest = worst;
                at = t;
            }
        }
        return at == NONE || what == 0 ? at : fewest;
    }

    int drift(int seed, int n, int what) {
        if (out(n, 1, 300) || out(what, 0, 1)) {
            return BAD;
        }
        if (world.clks.isEmpty()) {
            return STATE;
        }
        World w = world.copy();
        BigInteger s = BigInteger.valueOf(seed);
        BigInteger mod = BigInteger.ONE.shiftLeft(32);
        int sum = 0;
        for (int t = 0; t < n; t++) {
            s = s.multiply(BigInteger.valueOf(1103515245)).add(BigInteger.valueOf(12345)).mod(mod);
            int got = s.shiftRight(16).mod(BigInteger.valueOf(32768)).intValue();
            w.clks.get(got % w.clks.size()).pushed(1 + (got >> 3) % 5, w.push);
            sum += w.tick(false).size();
        }
        return what == 0 ? sum : w.sumOfHands();
    }

    int keep(int k) {
        if (out(k, 0, 1)) {
            return BAD;
        }
        int was = images[k] == null ? 0 : 1;
        images[k] = world.copy();
        return was;
    }

    int back(int k) {
        if (out(k, 0, 1)) {
            return BAD;
        }
        if (images[k] == null) {
            return STATE;
        }
        world = images[k].copy();
        return world.tick;
    }

    int sheet(int k, int lane, int n) {
        if (out(k, 0, 3) || out(lane, 0, 2) || n > 40) {
            return BAD;
        }
        if (n < 0) {
            return -14;
        }
        sheets[k] = lane == 0 ? new byte[n] : lane == 1 ? new short[n] : new int[n];
        return 1;
    }

    int lay(int k, int i, int v) {
        if (out(k, 0, 3)) {
            return BAD;
        }
        try {
            if (sheets[k] instanceof byte[] row) {
                row[i] = (byte) v;
            } else if (sheets[k] instanceof short[] row) {
                row[i] = (short) v;
            } else {
                ((int[]) sheets[k])[i] = v;
            }
            return 1;
        } catch (NullPointerException e) {
            return -11;
        } catch (ArrayIndexOutOfBoundsException e) {
            return -12;
        }
    }

    private int cell(int k, int lane, int i) {
        return lane == 0 ? ((byte[]) sheets[k])[i] : lane == 1 ? ((short[]) sheets[k])[i] : ((int[]) sheets[k])[i];
    }

    int read(int k, int lane, int f, int n) {
        if (out(k, 0, 3) || out(lane, 0, 2) || out(n, 0, 20)) {
            return BAD;
        }
        World w = world.copy();
        int came = 0, found = 0;
        try {
            for (; came < n; came++) {
                int c = cell(k, lane, f + 2 * came);
                int h = cell(k, lane, f + 2 * came + 1);
                if (alter(w, c, 2, h) < 0) {
                    return -20 - came;
                }
            }
        } catch (NullPointerException e) {
            found = 1;
        } catch (ArrayIndexOutOfBoundsException e) {
            found = 2;
        } catch (ClassCastException e) {
            found = 3;
        }
        world = w;
        torn = found;
        return came;
    }

    int torn() {
        return torn;
    }

    int count(int what) {
        return switch (what) {
            case 0 -> seen.size();
            case 1 -> (images[0] == null ? 0 : 1) + (images[1] == null ? 0 : 1);
            case 2 -> tape.length();
            case 3 -> sheets[0] == null ? NONE : java.lang.reflect.Array.getLength(sheets[0]);
            case 4 -> world.clks.stream().mapToInt(c -> c.period).sum();
            case 5 -> world.clks.stream().mapToInt(c -> c.kind).sum();
            default -> BAD;
        };
    }
}
