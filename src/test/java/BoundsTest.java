/**
 * Each number of each call: the last that is taken and the first that is BAD on either side. What is BAD, and what is
 * only asked, leaves everything as it was.
 */
public final class BoundsTest {
    private static final int BAD = BeamClocks.BAD;

    private interface Of {
        long on(BeamClocks x, int v);
    }

    public static void main(String[] args) {
        texts();
        changes();
        ticks();
        best();
        held();
        heard();
        imagesAndSheets();
        noClocks();
        Due.close("BoundsTest");
    }

    /** From least to most it is taken, and changes something or not. */
    private static void bounds(String call, Twin.Make make, int least, int most, Of of) {
        Due.sentence(call + ": " + least + " to " + most);
        for (int v : new int[] {least, most}) {
            Due.hold(call + " of " + v + " is not BAD", of.on(make.make(), v) != BAD);
        }
        for (int v : new int[] {least - 1, most + 1, Integer.MIN_VALUE, Integer.MAX_VALUE}) {
            Twin.unchanged(call + " of " + v, make, x -> of.on(x, v), BAD);
        }
    }

    /** The same of a question: what is taken changes nothing either. */
    private static void asked(String call, int least, int most, Of of) {
        bounds(call, Stands::some, least, most, of);
        for (int v : new int[] {least, most}) {
            Twin.unchanged(call + " of " + v, Stands::some, x -> of.on(x, v));
            Twin.unchanged(call + " of " + v + " where all is full", Stands::full, x -> of.on(x, v));
        }
    }

    /** A question of a clock: there are three, five, one, none. */
    private static void askedOfClock(String call, Of of) {
        asked(call, 0, 2, of);
        bounds(call + " of five", Stands::full, 0, 4, of);
        bounds(call + " of one", Stands::fullTape, 0, 0, of);
    }

    private static void texts() {
        bounds("feed(c)", Stands::some, 0, 127, (x, v) -> x.feed(v));
        bounds("feed(c), an empty tape", Stands::bare, 0, 127, (x, v) -> x.feed(v));
        bounds("end(n), eight bytes", Stands::some, 0, 8, (x, v) -> x.end(v));
        bounds("end(n), no bytes", Stands::bare, 0, 0, (x, v) -> x.end(v));
        bounds("end(n), 160 bytes", Stands::fullTape, 0, 160, (x, v) -> x.end(v));
        asked("rule(what)", 0, 5, (x, v) -> x.rule(v));
        askedOfClock("clock(c, 0)", (x, v) -> x.clock(v, 0));
        asked("clock(0, what)", 0, 4, (x, v) -> x.clock(0, v));
        Due.sentence("fault()");
        Twin.unchanged("fault()", Stands::some, x -> x.fault(), 3);
    }

    private static void changes() {
        for (int what = 0; what < 3; what++) {
            int w = what;
            bounds("alter(c, " + w + ", 2)", Stands::bareFive, 0, 4, (x, v) -> x.alter(v, w, 2));
        }
        bounds("alter(0, what, 2)", Stands::bareFive, 0, 2, (x, v) -> x.alter(0, v, 2));
        bounds("alter(0, 0, v): KIND", Stands::bareFive, 0, 3, (x, v) -> x.alter(0, 0, v));
        bounds("alter(0, 1, v): PERIOD", Stands::bareFive, 2, 30, (x, v) -> x.alter(0, 1, v));
        bounds("alter(0, 2, v): HAND", Stands::bareFive, 0, 29, (x, v) -> x.alter(0, 2, v));
        bounds("push(v)", Stands::some, 0, 5, (x, v) -> x.push(v));
        bounds("hang(kind, 2)", Stands::some, 0, 3, (x, v) -> x.hang(v, 2));
        bounds("hang(0, period)", Stands::some, 2, 30, (x, v) -> x.hang(0, v));
        bounds("cut(n) of three", Stands::some, 0, 3, (x, v) -> x.cut(v));
        bounds("cut(n) of five", Stands::full, 0, 5, (x, v) -> x.cut(v));
        bounds("cut(n) of none", Stands::bare, 0, 0, (x, v) -> x.cut(v));
        bounds("knock(c, 1)", Stands::some, 0, 2, (x, v) -> x.knock(v, 1));
        bounds("knock(c, 5) of five", Stands::full, 0, 4, (x, v) -> x.knock(v, 5));
        bounds("knock(0, many)", Stands::some, 1, 5, (x, v) -> x.knock(0, v));
    }

    private static void ticks() {
        bounds("ticks(n)", Stands::some, 0, 100, (x, v) -> x.ticks(v));
        bounds("ticks(n) of no clocks", Stands::bare, 0, 100, (x, v) -> x.ticks(v));
        for (int what = 0; what < 5; what++) {
            int w = what;
            asked("runs(n, " + w + ")", 0, 300, (x, v) -> x.runs(v, w));
        }
        asked("runs(3, what)", 0, 4, (x, v) -> x.runs(3, v));
        askedOfClock("ahead(c, 3, 0)", (x, v) -> x.ahead(v, 3, 0));
        askedOfClock("ahead(c, 3, 1)", (x, v) -> x.ahead(v, 3, 1));
        asked("ahead(0, n, 0)", 0, 300, (x, v) -> x.ahead(0, v, 0));
        asked("ahead(0, n, 1)", 0, 300, (x, v) -> x.ahead(0, v, 1));
        asked("ahead(0, 3, what)", 0, 1, (x, v) -> x.ahead(0, 3, v));
        asked("beats(n)", 0, 300, (x, v) -> x.beats(v));
        Due.sentence("together(), again()");
        Twin.unchanged("together()", Stands::some, x -> x.together());
        Twin.unchanged("together()", Stands::full, x -> x.together());
        Twin.unchanged("again()", Stands::some, x -> x.again());
        Twin.unchanged("again()", Stands::full, x -> x.again());
    }

    private static void best() {
        for (int what = 0; what < 2; what++) {
            int w = what;
            askedOfClock("period(c, " + w + ")", (x, v) -> x.period(v, w));
            askedOfClock("hand(c, " + w + ")", (x, v) -> x.hand(v, w));
            askedOfClock("kind(c, " + w + ")", (x, v) -> x.kind(v, w));
        }
        asked("period(0, what)", 0, 1, (x, v) -> x.period(0, v));
        asked("hand(0, what)", 0, 1, (x, v) -> x.hand(0, v));
        asked("kind(0, what)", 0, 1, (x, v) -> x.kind(0, v));
        asked("force(what)", 0, 1, (x, v) -> x.force(v));
        asked("away(what)", 0, 1, (x, v) -> x.away(v));
    }

    private static void held() {
        for (int what = 0; what < 2; what++) {
            int w = what;
            asked("luck(v, 0, 3, " + w + ")", 0, 10, (x, v) -> x.luck(v, 0, 3, w));
            askedOfClock("luck(3, c, 3, " + w + ")", (x, v) -> x.luck(3, v, 3, w));
            asked("luck(3, 0, n, " + w + ")", 0, 8, (x, v) -> x.luck(3, 0, v, w));
            asked("mean(v, 3, " + w + ")", 0, 10, (x, v) -> x.mean(v, 3, w));
            asked("mean(3, n, " + w + ")", 0, 8, (x, v) -> x.mean(3, v, w));
        }
        asked("luck(3, 0, 3, what)", 0, 1, (x, v) -> x.luck(3, 0, 3, v));
        asked("mean(3, 3, what)", 0, 1, (x, v) -> x.mean(3, 3, v));
    }

    private static void heard() {
        bounds("see(n, 0, 1)", Stands::some, 0, 60, (x, v) -> x.see(v, 0, 1));
        bounds("see(3, c, 1)", Stands::some, 0, 2, (x, v) -> x.see(3, v, 1));
        bounds("see(3, 0, v)", Stands::some, 0, 1, (x, v) -> x.see(3, 0, v));
        bounds("forget(n) of two", Stands::some, 0, 2, (x, v) -> x.forget(v));
        bounds("forget(n) of six", Stands::full, 0, 6, (x, v) -> x.forget(v));
        bounds("forget(n) of none", Stands::bare, 0, 0, (x, v) -> x.forget(v));
        askedOfClock("kinds(c)", (x, v) -> x.kinds(v));
        askedOfClock("periods(c)", (x, v) -> x.periods(v));
        askedOfClock("hands(c)", (x, v) -> x.hands(v));
        askedOfClock("ask(c, 0)", (x, v) -> x.ask(v, 0));
        askedOfClock("ask(c, 1)", (x, v) -> x.ask(v, 1));
        asked("ask(0, what)", 0, 1, (x, v) -> x.ask(0, v));
        asked("drift(5, n, 0)", 1, 300, (x, v) -> x.drift(5, v, 0));
        asked("drift(5, n, 1)", 1, 300, (x, v) -> x.drift(5, v, 1));
        asked("drift(5, 9, what)", 0, 1, (x, v) -> x.drift(5, 9, v));
        Due.sentence("drift(seed, 9, 0): any seed");
        for (int seed : new int[] {Integer.MIN_VALUE, -1, 0, 1, Integer.MAX_VALUE}) {
            Due.hold("drift of seed " + seed, Stands.some().drift(seed, 9, 0) >= 0);
            Twin.unchanged("drift of seed " + seed, Stands::some, x -> x.drift(seed, 9, 0));
        }
    }

    private static void imagesAndSheets() {
        bounds("keep(k)", Stands::some, 0, 1, (x, v) -> x.keep(v));
        bounds("back(k)", Stands::full, 0, 1, (x, v) -> x.back(v));
        bounds("sheet(k, 1, 4)", Stands::some, 0, 3, (x, v) -> x.sheet(v, 1, 4));
        bounds("sheet(0, lane, 4)", Stands::some, 0, 2, (x, v) -> x.sheet(0, v, 4));
        bounds("lay(k, 0, 4)", Stands::full, 0, 3, (x, v) -> x.lay(v, 0, 4));
        bounds("read(k, 2, 0, 1)", Stands::full, 0, 3, (x, v) -> x.read(v, 2, 0, 1));
        bounds("read(2, lane, 0, 1)", Stands::full, 0, 2, (x, v) -> x.read(2, v, 0, 1));
        bounds("read(3, 2, 0, n)", Stands::full, 0, 20, (x, v) -> x.read(3, 2, 0, v));
        asked("count(what)", 0, 5, (x, v) -> x.count(v));
        Due.sentence("sheet(0, 1, n): n above 40");
        for (int n : new int[] {41, Integer.MAX_VALUE}) {
            Twin.unchanged("sheet(0, 1, " + n + ")", Stands::some, x -> x.sheet(0, 1, n), BAD);
        }
        Due.sentence("torn()");
        Twin.unchanged("torn()", Stands::some, x -> x.torn(), 2);
    }

    /** Where there are no clocks, there is no clock 0. */
    private static void noClocks() {
        Due.sentence("BAD: there is no such CLOCK");
        Twin.Call[] calls = {
            x -> x.clock(0, 0), x -> x.alter(0, 0, 0), x -> x.alter(0, 1, 9), x -> x.alter(0, 2, 0), x -> x.knock(0, 1),
            x -> x.ahead(0, 0, 0), x -> x.period(0, 0), x -> x.hand(0, 0), x -> x.kind(0, 0), x -> x.luck(0, 0, 0, 0),
            x -> x.see(0, 0, 0), x -> x.kinds(0), x -> x.periods(0), x -> x.hands(0), x -> x.ask(0, 0)
        };
        for (int i = 0; i < calls.length; i++) {
            Twin.unchanged("no clocks, call " + i, Stands::bare, calls[i], BAD);
            Twin.unchanged("all clocks cut, call " + i, Stands::allCut, calls[i], BAD);
        }
    }
}
