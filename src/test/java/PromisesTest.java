/** Every promise of the document in order: ordinary inputs, the edges it names, wrong inputs. */
public final class PromisesTest {
    private static final int BAD = BeamClocks.BAD, STATE = BeamClocks.STATE, FULL = BeamClocks.FULL, NONE = BeamClocks.NONE;
    private static final int LOW = Integer.MIN_VALUE, HIGH = Integer.MAX_VALUE;

    public static void main(String[] args) {
        aNewObject();
        feed();
        end();
        text();
        fault();
        rule();
        clock();
        alter();
        push();
        hang();
        cut();
        knock();
        ticks();
        tickByKind();
        runs();
        ahead();
        beats();
        together();
        again();
        period();
        hand();
        kind();
        force();
        away();
        luck();
        mean();
        see();
        forget();
        kinds();
        periods();
        hands();
        ask();
        drift();
        keep();
        back();
        sheet();
        lay();
        read();
        torn();
        count();
        allThatThereMayBe();
        Due.close("PromisesTest");
    }

    private static void be(String call, long got, long want) {
        Due.be(call, got, want);
    }

    /** All that can be asked of the clocks without a change, in one number. */
    private static long stand(BeamClocks x) {
        long all = 0;
        for (int what = 0; what < 6; what++) {
            all = all * 31 + x.rule(what);
            all = all * 31 + x.count(what);
        }
        for (int c = 0; c < x.rule(0); c++) {
            for (int what = 0; what < 4; what++) {
                all = all * 31 + x.clock(c, what);
            }
        }
        return all;
    }

    private static void hands(String call, BeamClocks x, int... want) {
        be(call + ": clocks", x.rule(0), want.length);
        for (int c = 0; c < want.length; c++) {
            be(call + ": hand of " + c, x.clock(c, 2), want[c]);
        }
    }

    // 1
    private static void aNewObject() {
        BeamClocks x = new BeamClocks();
        int[] rules = {0, 1, 0, 0, 0, 0};
        int[] counts = {0, 0, 0, NONE, 0, 0};
        for (int what = 0; what < 6; what++) {
            be("new: rule(" + what + ")", x.rule(what), rules[what]);
            be("new: count(" + what + ")", x.count(what), counts[what]);
        }
        be("new: fault()", x.fault(), 0);
        be("new: torn()", x.torn(), 0);
        for (int k = 0; k < 4; k++) {
            be("new: lay(" + k + ", 0, 0)", x.lay(k, 0, 0), -11);
        }
        be("new: back(0)", x.back(0), STATE);
        be("new: back(1)", x.back(1), STATE);
        be("new: text()", x.text(), 0);
        BeamClocks y = new BeamClocks();
        x.hang(0, 5);
        x.sheet(0, 0, 3);
        x.feed(32);
        be("another object: rule(0)", y.rule(0), 0);
        be("another object: count(2)", y.count(2), 0);
        be("another object: count(3)", y.count(3), NONE);
    }

    // 2
    private static void feed() {
        BeamClocks x = new BeamClocks();
        for (int c : new int[] {-1, 128, LOW, HIGH}) {
            be("feed(" + c + ")", x.feed(c), BAD);
        }
        be("feed(0)", x.feed(0), 1);
        be("feed(127)", x.feed(127), 2);
        for (int n = 3; n <= 160; n++) {
            be("feed(32), the " + n + "th", x.feed(32), n);
        }
        be("feed(32), one more", x.feed(32), FULL);
        be("feed(128) when full", x.feed(128), BAD);
        be("count(2) when full", x.count(2), 160);
        be("text() when full", x.text(), -10);
        be("feed(32) behind text()", x.feed(32), 1);
    }

    // 3
    private static void end() {
        BeamClocks x = new BeamClocks();
        be("end(0) of nothing", x.end(0), 0);
        be("end(1) of nothing", x.end(1), BAD);
        Due.feed(x, "shy 5 1;xx");
        be("end(-1)", x.end(-1), BAD);
        be("end(11)", x.end(11), BAD);
        be("end(low)", x.end(LOW), BAD);
        be("end(high)", x.end(HIGH), BAD);
        be("end(10)", x.end(10), 10);
        be("end(8)", x.end(8), 10);
        be("count(2)", x.count(2), 8);
        be("text()", x.text(), 1);
        be("clock(0, 0)", x.clock(0, 0), 3);
        Due.feed(x, "abc");
        be("end(0)", x.end(0), 3);
        be("feed behind end(0)", x.feed(112), 1);
        String[] cutOff = {"shy  ;", "shyy 9 1;", "shy 9 12;"};
        int[] keeps = {3, 3, 7};
        for (int i = 0; i < 3; i++) {
            x = new BeamClocks();
            Due.feed(x, cutOff[i]);
            x.end(keeps[i]);
            be("bytes behind the end are not read: " + cutOff[i], x.text(), -10 - keeps[i]);
            be("bytes behind the end are not read: " + cutOff[i], x.fault(), 2);
        }
    }

    // 4
    private static void text() {
        BeamClocks x = Due.told("plain 12 3;soft 12 8;heavy 10 0;shy 15 14;push 2;");
        hands("text()", x, 3, 8, 0, 14);
        for (int c = 0; c < 4; c++) {
            be("kind by text", x.clock(c, 0), c);
        }
        be("push by text", x.rule(1), 2);
        x.ticks(5);
        x.see(0, 0, 1);
        x.keep(0);
        x.sheet(0, 1, 4);
        long was = stand(x);
        be("a faulty text", Due.text(x, "plain 5 5;"), -18);
        be("what was told stays", stand(x), was);
        be("the tape is empty then", x.count(2), 0);
        be("a text in place of it", Due.text(x, "  heavy 30 29 ;"), 1);
        hands("a text in place of it", x, 29);
        be("push is as at first", x.rule(1), 1);
        be("tick is as at first", x.rule(2), 0);
        be("beaten is as at first", x.rule(3), 0);
        be("nothing is seen", x.count(0), 0);
        be("images are gone", x.count(1), 0);
        be("images are gone: back(0)", x.back(0), STATE);
        be("sheets stay", x.count(3), 4);
        be("an empty text", x.text(), 0);
        be("an empty text: clocks", x.rule(0), 0);
        be("blanks alone", Due.text(x, "   "), 0);
        be("no blanks", Due.text(x, "plain2 0;push5;shy30 29;soft02 01;heavy9 8;push"), -53);
        be("no blanks", Due.text(x, "plain2 0;push5;shy30 29;soft02 01;heavy9 8;"), 5);
        hands("no blanks", x, 0, 29, 1, 8);
        be("push alone", Due.text(x, "push 0;"), 1);
        be("push alone", x.rule(1), 0);
        be("five clocks, a push", Due.text(x, "shy 2 0;shy 2 0;shy 2 0;shy 2 0;shy 2 0;push 3;"), 6);
    }

    private static void faulty(String text, int fault, int place) {
        BeamClocks x = new BeamClocks();
        be("text \"" + text + "\"", Due.text(x, text), -10 - place);
        be("fault of \"" + text + "\"", x.fault(), fault);
        be("clocks behind \"" + text + "\"", x.rule(0), 0);
        be("push behind \"" + text + "\"", x.rule(1), 1);
    }

    // 5
    private static void fault() {
        faulty("!", 1, 0);
        faulty("shy 5 1;\t", 1, 8);
        faulty("Shy 5 1;", 1, 0);
        faulty("shY 5 1;", 2, 0);
        faulty("shy 123 1;", 1, 4);
        faulty("shy 005 1;", 1, 4);
        faulty("shy 5 100;", 1, 6);
        faulty("push 001;", 1, 5);
        faulty("123", 1, 0);
        faulty("shy 5 1:", 1, 7);
        faulty("shy 5 1 123", 1, 8);
        faulty("shy -5 1;", 1, 4);
        faulty("shy`5 1;", 1, 3);
        faulty("shy{5 1;", 1, 3);
        faulty("shy 5/1;", 1, 5);
        faulty("bell 2 1;", 2, 0);
        faulty("shyy 2 1;", 2, 0);
        faulty("sh 2 1;", 2, 0);
        faulty("pus 2;", 2, 0);
        faulty("pushpush 2;", 2, 0);
        faulty("bell!", 2, 0);
        faulty("bell 123", 2, 0);
        faulty("4;", 2, 0);
        faulty(";", 2, 0);
        faulty("shy 2 1;;", 2, 8);
        faulty("shy", 2, 3);
        faulty("shy  ", 2, 5);
        faulty("shy 2", 2, 5);
        faulty("shy 2 1", 2, 7);
        faulty("shy 2 1  ", 2, 9);
        faulty("shy ;", 2, 4);
        faulty("shy 2;", 2, 5);
        faulty("shy 2 1 1;", 2, 8);
        faulty("shy 2 1 shy 2 1;", 2, 8);
        faulty("shy soft 2 1;", 2, 4);
        faulty("push", 2, 4);
        faulty("push;", 2, 4);
        faulty("push 1 1;", 2, 7);
        faulty("push 1", 2, 6);
        faulty("shy 1 0;", 3, 4);
        faulty("shy 0 !", 3, 4);
        faulty("shy 31 0;", 3, 4);
        faulty("shy 99 99;", 3, 4);
        faulty("shy 5 5;", 3, 6);
        faulty("shy 30 30;", 3, 7);
        faulty("push 6;", 3, 5);
        faulty("push 6", 3, 5);
        faulty("push 1; push 1;", 4, 8);
        faulty("push 1; push !", 4, 8);
        faulty("shy 2 0;shy 2 0;shy 2 0;shy 2 0;shy 2 0; plain", 5, 41);
        faulty("shy 2 0;shy 2 0;shy 2 0;shy 2 0;shy 2 0; bell", 2, 41);
        faulty("thy 2 1;", 2, 0);
        faulty("bush 2;", 2, 0);
        faulty("x".repeat(160), 2, 0);
        faulty("1".repeat(160), 1, 0);
        faulty("push".concat(" ".repeat(156)), 2, 160);
        BeamClocks x = new BeamClocks();
        Due.text(x, "push 6;");
        be("fault()", x.fault(), 3);
        x.feed(33);
        be("fault() ahead of the next text()", x.fault(), 3);
        x.text();
        be("fault() of the latest", x.fault(), 1);
        x.text();
        be("fault() of one that was taken", x.fault(), 0);
    }

    // 6
    private static void rule() {
        BeamClocks x = Due.told("plain 4 3;plain 6 4;shy 9 8;push 3;");
        int[] rules = {3, 3, 0, 0, 5, 15};
        for (int what = 0; what < 6; what++) {
            be("rule(" + what + ")", x.rule(what), rules[what]);
        }
        be("rule(4) changes nothing", x.rule(5), 15);
        be("ticks(1)", x.ticks(1), 2);
        be("rule(2)", x.rule(2), 1);
        be("rule(3)", x.rule(3), 2);
        for (int what : new int[] {-1, 6, LOW, HIGH}) {
            be("rule(" + what + ")", x.rule(what), BAD);
        }
        x.cut(1);
        be("rule(3) of those that are there", x.rule(3), 1);
    }

    // 7
    private static void clock() {
        BeamClocks x = Due.told("plain 6 2;soft 6 3;heavy 7 4;shy 6 5;heavy 7 3;");
        int[][] due = {{0, 6, 2, 0, 0}, {1, 6, 3, 0, 1}, {2, 7, 4, 0, 1}, {3, 6, 5, 0, 0}, {2, 7, 3, 0, 0}};
        for (int c = 0; c < 5; c++) {
            for (int what = 0; what < 5; what++) {
                be("clock(" + c + ", " + what + ")", x.clock(c, what), due[c][what]);
            }
        }
        x.ticks(1);
        be("beaten", x.clock(3, 3), 1);
        be("beaten", x.clock(0, 3), 0);
        for (int v : new int[] {-1, 5, LOW, HIGH}) {
            be("clock(" + v + ", 0)", x.clock(v, 0), BAD);
            be("clock(0, " + v + ")", x.clock(0, v), BAD);
        }
    }

    // 8
    private static void alter() {
        BeamClocks x = Due.told("plain 10 7;soft 5 0;");
        x.ticks(3);
        be("alter(0, 0, 3)", x.alter(0, 0, 3), 0);
        be("alter(0, 0, 0)", x.alter(0, 0, 0), 3);
        be("alter(0, 0, 4)", x.alter(0, 0, 4), BAD);
        be("alter(0, 0, -1)", x.alter(0, 0, -1), BAD);
        be("alter(0, 1, 30)", x.alter(0, 1, 30), 10);
        be("alter(0, 1, 31)", x.alter(0, 1, 31), BAD);
        be("alter(0, 1, 1)", x.alter(0, 1, 1), BAD);
        be("alter(0, 2, 29)", x.alter(0, 2, 29), 0);
        be("alter(0, 1, 29)", x.alter(0, 1, 29), STATE);
        be("alter(0, 1, 30)", x.alter(0, 1, 30), 30);
        be("alter(0, 2, 30)", x.alter(0, 2, 30), BAD);
        be("alter(0, 2, -1)", x.alter(0, 2, -1), BAD);
        be("alter(0, 2, 4)", x.alter(0, 2, 4), 29);
        be("alter(0, 1, 4)", x.alter(0, 1, 4), STATE);
        be("alter(0, 1, 5)", x.alter(0, 1, 5), 30);
        be("alter(0, 2, 5)", x.alter(0, 2, 5), STATE);
        be("alter(0, 2, 30), a number above all else", x.alter(0, 2, 30), BAD);
        hands("what is refused changes nothing", x, 4, 3);
        be("beaten stays", x.clock(0, 3), 1);
        be("the other stays", x.clock(1, 1), 5);
        for (int v : new int[] {-1, 2, LOW, HIGH}) {
            be("alter(" + v + ", 0, 0)", x.alter(v, 0, 0), BAD);
        }
        for (int v : new int[] {-1, 3, LOW, HIGH}) {
            be("alter(0, " + v + ", 2)", x.alter(0, v, 2), BAD);
        }
    }

    // 9
    private static void push() {
        BeamClocks x = new BeamClocks();
        be("push(5)", x.push(5), 1);
        be("push(0)", x.push(0), 5);
        for (int v : new int[] {-1, 6, LOW, HIGH}) {
            be("push(" + v + ")", x.push(v), BAD);
        }
        be("rule(1)", x.rule(1), 0);
    }

    // 10
    private static void hang() {
        BeamClocks x = new BeamClocks();
        int[][] wrong = {{-1, 5}, {4, 5}, {0, 1}, {0, 31}, {LOW, 5}, {0, HIGH}};
        for (int[] w : wrong) {
            be("hang(" + w[0] + ", " + w[1] + ")", x.hang(w[0], w[1]), BAD);
        }
        be("hang(3, 2)", x.hang(3, 2), 1);
        be("hang(2, 30)", x.hang(2, 30), 2);
        x.ticks(40);
        x.cut(1);
        be("hang(1, 9) where one was", x.hang(1, 9), 2);
        be("its kind", x.clock(1, 0), 1);
        be("its period", x.clock(1, 1), 9);
        be("its hand", x.clock(1, 2), 0);
        be("beaten", x.clock(1, 3), 0);
        x.hang(0, 5);
        x.hang(0, 5);
        be("the fifth", x.hang(0, 5), 5);
        be("the sixth", x.hang(0, 5), FULL);
        be("the sixth, a bad one", x.hang(4, 5), BAD);
        be("rule(0)", x.rule(0), 5);
    }

    // 11
    private static void cut() {
        BeamClocks x = Due.told("plain 5 1;soft 6 2;shy 7 3;");
        x.see(0, 2, 0);
        be("cut(-1)", x.cut(-1), BAD);
        be("cut(4)", x.cut(4), BAD);
        be("cut(high)", x.cut(HIGH), BAD);
        be("cut(3)", x.cut(3), 3);
        be("cut(1)", x.cut(1), 3);
        hands("cut(1)", x, 1);
        be("what is seen stays", x.count(0), 1);
        be("cut(0)", x.cut(0), 1);
        be("cut(0)", x.cut(0), 0);
        be("cut(1)", x.cut(1), BAD);
    }

    // 12
    private static void knock() {
        BeamClocks x = Due.told("plain 20 10;soft 20 10;heavy 20 10;shy 20 10;plain 20 9;push 3;");
        int[] due = {19, 14, 16, 6, 0};
        for (int c = 0; c < 5; c++) {
            be("knock(" + c + ", 3)", x.knock(c, 3), due[c]);
        }
        hands("knock", x, due);
        x = Due.told("heavy 20 10;soft 20 10;shy 20 3;plain 20 12;plain 20 2;push 1;");
        be("heavy by one", x.knock(0, 1), 10);
        be("soft by one", x.knock(1, 1), 10);
        be("shy by three", x.knock(2, 3), 2);
        be("plain by five", x.knock(3, 5), 17);
        be("plain by five", x.knock(3, 5), 19);
        be("back to 0 at least", x.knock(4, 5), 0);
        be("no beats", x.rule(3), 0);
        be("no tick", x.rule(2), 0);
        for (int v : new int[] {-1, 5, LOW, HIGH}) {
            be("knock(" + v + ", 1)", x.knock(v, 1), BAD);
        }
        for (int v : new int[] {0, 6, -1, LOW, HIGH}) {
            be("knock(0, " + v + ")", x.knock(0, v), BAD);
        }
    }

    // 13
    private static void ticks() {
        BeamClocks x = Due.told("plain 4 0;plain 6 0;");
        be("ticks(0)", x.ticks(0), 0);
        be("ticks(4)", x.ticks(4), 1);
        hands("ticks(4)", x, 0, 5);
        be("ticks(1)", x.ticks(1), 1);
        hands("ticks(1)", x, 0, 0);
        be("rule(2)", x.rule(2), 5);
        be("ticks(100)", x.ticks(100), 40);
        be("clock(0, 3)", x.clock(0, 3), 21);
        be("clock(1, 3)", x.clock(1, 3), 21);
        for (int v : new int[] {-1, 101, LOW, HIGH}) {
            be("ticks(" + v + ")", x.ticks(v), BAD);
        }
        be("rule(2)", x.rule(2), 105);
        x = new BeamClocks();
        for (int i = 0; i < 99; i++) {
            x.ticks(100);
        }
        be("no clocks: rule(2)", x.rule(2), 9900);
        be("ticks(100) to 10000", x.ticks(100), FULL);
        be("ticks(101)", x.ticks(101), BAD);
        be("ticks(99) to 9999", x.ticks(99), 0);
        be("ticks(1) to 10000", x.ticks(1), FULL);
        be("ticks(0) at 9999", x.ticks(0), 0);
        be("rule(2)", x.rule(2), 9999);
        be("beats(300) at 9999", x.beats(300), 0);
    }

    /** How a TICK pushes each kind, on and back, by one that beats and by two. */
    private static void tickByKind() {
        BeamClocks x = Due.told("plain 2 1;plain 20 9;soft 20 8;heavy 20 15;shy 20 15;push 3;");
        be("one beats", x.ticks(1), 1);
        hands("one beats", x, 0, 13, 8, 16, 15);
        x = Due.told("plain 2 1;plain 2 1;soft 20 8;heavy 20 15;shy 20 15;push 3;");
        be("two beat", x.ticks(1), 2);
        hands("two beat", x, 0, 0, 6, 19, 13);
        x = Due.told("plain 2 1;plain 2 1;heavy 20 5;soft 20 18;shy 20 0;push 5;");
        be("at the bounds", x.ticks(1), 2);
        hands("at the bounds", x, 0, 0, 1, 19, 0);
        x = Due.told("plain 9 0;plain 20 12;push 5;");
        be("none beats", x.ticks(1), 0);
        hands("none beats", x, 1, 13);
    }

    // 14
    private static void runs() {
        BeamClocks x = Due.told("plain 4 0;plain 6 0;");
        int[][] due = {{0, 0, 0, 0, 0}, {0, 0, 0, 0, 6}, {1, 1, 1, 0, 5}, {2, 2, 1, 0, 0}, {120, 120, 1, 0, 0}};
        int[] ns = {0, 3, 4, 5, 300};
        for (int i = 0; i < ns.length; i++) {
            for (int what = 0; what < 5; what++) {
                be("runs(" + ns[i] + ", " + what + ")", x.runs(ns[i], what), due[i][what]);
            }
        }
        x = Due.told("plain 3 0;soft 3 0;shy 3 0;push 0;");
        int[] three = {9, 3, 3, 3, 3};
        for (int what = 0; what < 5; what++) {
            be("runs(10, " + what + ")", x.runs(10, what), three[what]);
        }
        hands("runs changes nothing", x, 0, 0, 0);
        be("runs changes nothing", x.rule(2), 0);
        for (int v : new int[] {-1, 301, LOW, HIGH}) {
            be("runs(" + v + ", 0)", x.runs(v, 0), BAD);
        }
        for (int v : new int[] {-1, 5, LOW, HIGH}) {
            be("runs(0, " + v + ")", x.runs(0, v), BAD);
        }
        be("no clocks: together never", new BeamClocks().runs(300, 3), 0);
    }

    // 15
    private static void ahead() {
        BeamClocks x = Due.told("plain 4 0;plain 6 0;");
        x.ticks(5);
        be("ahead(1, 4, 0)", x.ahead(1, 4, 0), 5);
        be("ahead(1, 4, 1)", x.ahead(1, 4, 1), 0);
        be("ahead(1, 5, 1)", x.ahead(1, 5, 1), 1);
        be("ahead(0, 0, 0)", x.ahead(0, 0, 0), 0);
        be("ahead(0, 0, 1)", x.ahead(0, 0, 1), 0);
        be("ahead(0, 300, 1)", x.ahead(0, 300, 1), 60);
        be("ahead(0, 299, 0)", x.ahead(0, 299, 0), 0);
        for (int v : new int[] {-1, 301, LOW, HIGH}) {
            be("ahead(0, " + v + ", 0)", x.ahead(0, v, 0), BAD);
        }
        for (int v : new int[] {-1, 2, LOW, HIGH}) {
            be("ahead(" + v + ", 0, 0)", x.ahead(v, 0, 0), BAD);
            be("ahead(0, 0, " + v + ")", x.ahead(0, 0, v), BAD);
        }
        be("ahead changes nothing", x.rule(3), 2);
    }

    // 16
    private static void beats() {
        BeamClocks x = Due.told("plain 4 0;plain 6 0;");
        int[] due = {0, 0, 0, 1, 2, 0, 0, 0, 1, 2};
        for (int n = 0; n < due.length; n++) {
            be("beats(" + n + ")", x.beats(n), due[n]);
        }
        be("beats(299)", x.beats(299), 2);
        be("beats(300)", x.beats(300), 0);
        for (int v : new int[] {-1, 301, LOW, HIGH}) {
            be("beats(" + v + ")", x.beats(v), BAD);
        }
        be("all five", Due.told("shy 2 1;shy 3 2;shy 4 3;shy 5 4;shy 6 5;").beats(0), 31);
    }

    // 17
    private static void together() {
        be("together() of none", new BeamClocks().together(), NONE);
        be("together() of one", Due.told("heavy 30 0;").together(), 29);
        be("together() at once", Due.told("plain 9 8;shy 2 1;").together(), 0);
        be("together() never", Due.told("plain 4 0;plain 6 0;").together(), NONE);
        be("together() by no push", Due.told("plain 4 0;plain 6 0;push 0;").together(), 11);
        // 17 and 18 first fall together behind 306 ticks; with hands at 5 in tick 300.
        be("together() in tick 300", Due.told("plain 17 5;plain 18 5;push 0;").together(), 300);
        be("together() in tick 301", Due.told("plain 17 4;plain 18 4;push 0;").together(), NONE);
        BeamClocks x = Due.told("plain 4 0;plain 6 0;push 0;");
        x.together();
        be("together() changes nothing", x.rule(2), 0);
    }

    // 18
    private static void again() {
        be("again() of none", new BeamClocks().again(), 1);
        be("again() of one", Due.told("heavy 30 7;").again(), 30);
        be("again()", Due.told("plain 4 0;plain 6 0;").again(), 5);
        be("again() by no push", Due.told("plain 4 1;plain 6 3;push 0;").again(), 12);
        be("again() behind 300", Due.told("plain 25 0;plain 12 0;push 0;").again(), 300);
        be("again() behind 306", Due.told("plain 17 0;plain 18 0;push 0;").again(), NONE);
        BeamClocks x = Due.told("plain 4 1;plain 6 3;push 0;");
        x.beats(4);
        be("again() from now", x.again(), 12);
    }

    private static final String SEARCHED = "plain 6 0;plain 7 4;push 2;";

    private static void wrongOfClock(BeamClocks x, int v) {
        be("period(" + v + ", 0)", x.period(v, 0), BAD);
        be("hand(" + v + ", 0)", x.hand(v, 0), BAD);
        be("kind(" + v + ", 0)", x.kind(v, 0), BAD);
        be("period(0, " + v + ")", x.period(0, v), BAD);
        be("hand(0, " + v + ")", x.hand(0, v), BAD);
        be("kind(0, " + v + ")", x.kind(0, v), BAD);
    }

    // 19
    private static void period() {
        BeamClocks x = Due.told(SEARCHED);
        be("period(0, 0)", x.period(0, 0), 3);
        be("period(0, 1)", x.period(0, 1), 2);
        be("it stays", x.clock(0, 1), 6);
        for (int v : new int[] {-1, 2, LOW, HIGH}) {
            wrongOfClock(x, v);
        }
        x = Due.told("plain 4 0;plain 6 0;");
        be("the least of several", x.period(0, 0), 2);
        be("the least of several", x.period(0, 1), 5);
        x = Due.told("plain 20 19;plain 10 9;");
        be("the hand goes down to period less 1", x.period(0, 0), 2);
        be("the hand goes down to period less 1", x.period(0, 1), 0);
        be("it stays", x.clock(0, 2), 19);
        x = Due.told("plain 20 0;plain 30 0;push 0;");
        be("2 does as well as 20", x.period(1, 0), 2);
        be("2 does as well as 20", x.period(1, 1), 19);
        // With its hand at 28 it beats in tick 1 by 30 alone: by 29 and by less it is at its end now.
        x = Due.told("shy 29 28;plain 5 3;push 0;");
        be("by 30 alone", x.period(0, 0), 30);
        be("by 30 alone", x.period(0, 1), 1);
    }

    // 20
    private static void hand() {
        BeamClocks x = Due.told(SEARCHED);
        be("hand(1, 0)", x.hand(1, 0), 1);
        be("hand(1, 1)", x.hand(1, 1), 5);
        x = Due.told("plain 6 2;plain 6 5;");
        be("hand(0, 0)", x.hand(0, 0), 5);
        be("hand(0, 1)", x.hand(0, 1), 0);
        be("it stays", x.clock(0, 2), 2);
        x = Due.told("shy 30 0;");
        be("the last hand", x.hand(0, 0), 29);
        be("the last hand", x.hand(0, 1), 0);
        x = Due.told("plain 8 2;plain 2 0;push 0;");
        be("in step by the odd ticks", x.hand(1, 0), 0);
        be("in step by the odd ticks", x.hand(1, 1), 5);
        // In tick 2 the second sends the first back to 0 from where hand 1 or 2 has brought it.
        x = Due.told("shy 3 0;heavy 3 0;heavy 8 2;push 4;");
        be("the least of several", x.hand(0, 0), 1);
        be("the least of several", x.hand(0, 1), 5);
        x = Due.told("plain 4 0;plain 4 1;plain 4 2;push 0;");
        be("by none", x.hand(0, 0), NONE);
        be("by none", x.hand(0, 1), NONE);
    }

    // 21
    private static void kind() {
        BeamClocks x = Due.told(SEARCHED);
        be("kind(0, 0)", x.kind(0, 0), 2);
        be("kind(0, 1)", x.kind(0, 1), 11);
        be("it stays", x.clock(0, 0), 0);
        x = Due.told("shy 9 3;");
        be("the first of several", x.kind(0, 0), 0);
        be("the first of several", x.kind(0, 1), 5);
        x = Due.told("plain 4 0;plain 6 0;");
        be("by none", x.kind(0, 0), NONE);
        be("by none", x.kind(0, 1), NONE);
        x = Due.told("soft 3 0;shy 4 0;push 3;");
        be("the last", x.kind(0, 0), 3);
        be("the last", x.kind(0, 1), 9);
    }

    // 22
    private static void force() {
        BeamClocks x = Due.told(SEARCHED);
        be("force(0)", x.force(0), 1);
        be("force(1)", x.force(1), 10);
        be("it stays", x.rule(1), 2);
        x = Due.told("plain 4 0;plain 6 0;");
        be("by none at all", x.force(0), 0);
        be("by none at all", x.force(1), 11);
        x = Due.told("shy 9 3;push 4;");
        be("the least of several", x.force(0), 0);
        be("no clocks", new BeamClocks().force(0), NONE);
        be("no clocks", new BeamClocks().force(1), NONE);
        for (int v : new int[] {-1, 2, LOW, HIGH}) {
            be("force(" + v + ")", x.force(v), BAD);
        }
        x = Due.told("shy 7 3;shy 5 0;push 2;");
        be("a greater push", x.force(0), 4);
        be("a greater push", x.force(1), 23);
        // In this tick 15 goes on to 20 by 5, to 19 at most by less.
        x = Due.told("plain 22 14;plain 2 1;push 4;");
        be("the greatest push", x.force(0), 5);
        be("the greatest push", x.force(1), 2);
    }

    // 23
    private static void away() {
        BeamClocks x = Due.told(SEARCHED);
        be("away(0)", x.away(0), 0);
        be("away(1)", x.away(1), 2);
        be("it stays", x.rule(0), 2);
        be("no clocks", new BeamClocks().away(0), NONE);
        be("one clock alone", Due.told("plain 5 0;").away(0), NONE);
        x = Due.told("plain 5 0;plain 5 0;");
        be("no sooner than as it is", x.away(0), NONE);
        be("no sooner than as it is", x.away(1), NONE);
        x = Due.told("plain 5 0;plain 9 0;plain 5 0;push 0;");
        be("the one in the midst", x.away(0), 1);
        be("the one in the midst", x.away(1), 4);
        x = Due.told("plain 5 1;plain 5 1;push 0;");
        be("all in step", x.away(0), NONE);
        x = Due.told("plain 5 2;plain 5 1;plain 5 2;plain 5 1;push 0;");
        be("none helps", x.away(1), NONE);
        x = Due.told("plain 5 1;plain 6 2;push 0;");
        be("as soon as it is", x.away(0), NONE);
        x = Due.told("plain 4 2;plain 5 0;plain 4 3;");
        be("the first of several", x.away(0), 1);
        be("the first of several", x.away(1), 5);
        x = Due.told("shy 5 0;plain 5 4;soft 6 1;push 2;");
        be("together() as it is", x.together(), 5);
        be("sooner by one", x.away(0), 1);
        be("sooner by one", x.away(1), 4);
        x = Due.told("shy 29 0;heavy 6 0;plain 7 4;push 2;");
        be("the others stay of their kinds", x.away(0), 0);
        be("the others stay of their kinds", x.away(1), 11);
        x = Due.told("plain 5 1;plain 6 1;push 0;");
        be("the last", x.away(0), 1);
        be("the last", x.away(1), 3);
        for (int v : new int[] {-1, 2, LOW, HIGH}) {
            be("away(" + v + ")", x.away(v), BAD);
        }
    }

    // 24
    private static void luck() {
        // In tick 0 the first beats: the second comes to 9, or stays at 8 if the beam is held.
        BeamClocks x = Due.told("plain 4 3;plain 10 7;");
        odds("luck(3, 1, 1)", x.luck(3, 1, 1, 0), x.luck(3, 1, 1, 1), 7, 10);
        odds("luck(3, 1, 2)", x.luck(3, 1, 2, 0), x.luck(3, 1, 2, 1), 3, 10);
        odds("luck(5, 1, 1)", x.luck(5, 1, 1, 0), x.luck(5, 1, 1, 1), 1, 2);
        odds("luck(0, 1, 1)", x.luck(0, 1, 1, 0), x.luck(0, 1, 1, 1), 1, 1);
        odds("luck(10, 1, 1)", x.luck(10, 1, 1, 0), x.luck(10, 1, 1, 1), 0, 1);
        odds("luck(10, 1, 2)", x.luck(10, 1, 2, 0), x.luck(10, 1, 2, 1), 1, 1);
        odds("luck(3, 0, 0)", x.luck(3, 0, 0, 0), x.luck(3, 0, 0, 1), 1, 1);
        odds("luck(3, 1, 0)", x.luck(3, 1, 0, 0), x.luck(3, 1, 0, 1), 0, 1);
        x = Due.told("plain 2 1;plain 2 0;plain 30 20;push 0;");
        odds("no push, nothing is held", x.luck(4, 2, 8, 0), x.luck(4, 2, 8, 1), 0, 1);
        for (int v : new int[] {-1, 11, LOW, HIGH}) {
            be("luck(" + v + ", 0, 0, 0)", x.luck(v, 0, 0, 0), BAD);
        }
        for (int v : new int[] {-1, 3, LOW, HIGH}) {
            be("luck(0, " + v + ", 0, 0)", x.luck(0, v, 0, 0), BAD);
        }
        for (int v : new int[] {-1, 9, LOW, HIGH}) {
            be("luck(0, 0, " + v + ", 0)", x.luck(0, 0, v, 0), BAD);
        }
        for (int v : new int[] {-1, 2, LOW, HIGH}) {
            be("luck(0, 0, 0, " + v + ")", x.luck(0, 0, 0, v), BAD);
        }
        // 20 comes to 28 by eight ticks, to 29 if just one of the pushes (ticks 1, 3, 5, 7) is not held: 4 * .9^3 * .1;
        // or if that of tick 7, at 29 then, is the second that is not held: 3 * .9^2 * .1^2 more.
        x = Due.told("plain 2 0;plain 30 20;");
        odds("luck(9, 1, 8)", x.luck(9, 1, 8, 0), x.luck(9, 1, 8, 1), 3159, 10000);
        be("luck changes nothing", x.rule(5), 20);
    }

    private static void odds(String call, long above, long below, long wantAbove, long wantBelow) {
        be(call + " above", above, wantAbove);
        be(call + " below", below, wantBelow);
    }

    // 25
    private static void mean() {
        BeamClocks x = Due.told("plain 4 3;plain 10 7;");
        odds("mean(3, 2)", x.mean(3, 2, 0), x.mean(3, 2, 1), 17, 10);
        odds("mean(5, 2)", x.mean(5, 2, 0), x.mean(5, 2, 1), 3, 2);
        odds("mean(3, 1)", x.mean(3, 1, 0), x.mean(3, 1, 1), 1, 1);
        odds("mean(3, 0)", x.mean(3, 0, 0), x.mean(3, 0, 1), 0, 1);
        odds("mean(0, 2)", x.mean(0, 2, 0), x.mean(0, 2, 1), 2, 1);
        odds("mean(10, 2)", x.mean(10, 2, 0), x.mean(10, 2, 1), 1, 1);
        odds("mean of none", new BeamClocks().mean(5, 8, 0), new BeamClocks().mean(5, 8, 1), 0, 1);
        for (int v : new int[] {-1, 11, LOW, HIGH}) {
            be("mean(" + v + ", 0, 0)", x.mean(v, 0, 0), BAD);
        }
        for (int v : new int[] {-1, 9, LOW, HIGH}) {
            be("mean(0, " + v + ", 0)", x.mean(0, v, 0), BAD);
        }
        for (int v : new int[] {-1, 2, LOW, HIGH}) {
            be("mean(0, 0, " + v + ")", x.mean(0, 0, v), BAD);
        }
        be("mean changes nothing", x.rule(5), 10);
    }

    // 26
    private static void see() {
        BeamClocks x = Due.told("plain 10 7;plain 3 0;");
        for (int v : new int[] {-1, 61, LOW, HIGH}) {
            be("see(" + v + ", 0, 0)", x.see(v, 0, 0), BAD);
        }
        for (int v : new int[] {-1, 2, LOW, HIGH}) {
            be("see(0, " + v + ", 0)", x.see(0, v, 0), BAD);
            be("see(0, 0, " + v + ")", x.see(0, 0, v), BAD);
        }
        be("see(60, 0, 1)", x.see(60, 0, 1), 1);
        for (int n = 2; n <= 6; n++) {
            be("see(0, 1, 0), the " + n + "th", x.see(0, 1, 0), n);
        }
        be("the seventh", x.see(0, 1, 0), FULL);
        be("the seventh, a bad one", x.see(61, 1, 0), BAD);
        be("count(0)", x.count(0), 6);
    }

    // 27
    private static void forget() {
        BeamClocks x = Due.told("plain 10 7;");
        x.see(2, 0, 1);
        x.see(3, 0, 1);
        be("nothing is left", x.hands(0), 0);
        be("forget(-1)", x.forget(-1), BAD);
        be("forget(3)", x.forget(3), BAD);
        be("forget(high)", x.forget(HIGH), BAD);
        be("forget(2)", x.forget(2), 2);
        be("forget(1)", x.forget(1), 2);
        be("the first stays", x.hands(0), 1 << 7);
        be("forget(0)", x.forget(0), 1);
        be("forget(0)", x.forget(0), 0);
        be("nothing is seen", x.hands(0), 1023);
    }

    // 28
    private static void kinds() {
        BeamClocks x = Due.told("plain 4 3;plain 10 7;push 2;");
        be("nothing seen", x.kinds(1), 15);
        x.see(1, 1, 1);
        // From 8: plain and soft come to 9 (soft by half of 2), heavy stays, shy goes back.
        be("it beats in tick 1", x.kinds(1), 3);
        be("of the other", x.kinds(0), 15);
        x.forget(0);
        x.see(2, 1, 1);
        be("it beats in tick 2", x.kinds(1), 4);
        x.forget(0);
        x.see(3, 1, 1);
        be("it beats in tick 3", x.kinds(1), 8);
        be("it stays", x.clock(1, 0), 0);
        x.cut(1);
        be("a clock that is there no more beats never", x.kinds(0), 0);
        be("not a clock", x.kinds(1), BAD);
        x.forget(0);
        x.hang(0, 5);
        x.see(4, 1, 0);
        x.cut(1);
        be("a clock that is there no more does not beat", x.kinds(0), 15);
        be("kinds(-1)", x.kinds(-1), BAD);
        be("kinds(low)", x.kinds(LOW), BAD);
        be("kinds(high)", x.kinds(HIGH), BAD);
    }

    // 29
    private static void periods() {
        BeamClocks x = Due.told("plain 10 7;");
        be("nothing seen", x.periods(0), 0x7FFFFFFC);
        x.see(2, 0, 1);
        be("it beats in tick 2", x.periods(0), 1 << 2 | 1 << 10);
        be("it stays", x.clock(0, 1), 10);
        x.forget(0);
        x.see(22, 0, 1);
        x.see(0, 0, 0);
        be("it beats in tick 22, not in this one", x.periods(0), 1 << 30 | 1 << 10 | 1 << 15);
        be("not a clock", x.periods(1), BAD);
        be("not a clock", x.periods(-1), BAD);
    }

    // 30
    private static void hands() {
        BeamClocks x = Due.told("shy 30 7;plain 10 7;");
        be("nothing seen", x.hands(0), 0x3FFFFFFF);
        be("nothing seen", x.hands(1), 0x3FF);
        x.see(0, 0, 1);
        be("it beats in this tick", x.hands(0), 1 << 29);
        be("of the other: what is as seen is not so", x.hands(1), 0);
        be("it stays", x.clock(0, 2), 7);
        x.forget(0);
        x.see(60, 1, 1);
        be("it beats in tick 60", Integer.bitCount(x.hands(1)) > 0 ? 1 : 0, 1);
        be("not a clock", x.hands(2), BAD);
        be("not a clock", x.hands(-1), BAD);
        x = Due.told("plain 10 7;");
        x.see(60, 0, 1);
        be("it beats in tick 60", x.hands(0), 1 << 9);
        x.see(59, 0, 0);
        x.see(50, 0, 1);
        be("and in tick 50", x.hands(0), 1 << 9);
        x.ticks(1);
        be("from now on", x.hands(0), 1 << 9);
    }

    // 31
    private static void ask() {
        BeamClocks x = Due.told("plain 10 7;");
        be("ask(0, 0)", x.ask(0, 0), 0);
        be("ask(0, 1)", x.ask(0, 1), 9);
        x.see(0, 0, 0);
        be("not in this tick: ask(0, 0)", x.ask(0, 0), 1);
        be("not in this tick: ask(0, 1)", x.ask(0, 1), 8);
        x.see(3, 0, 1);
        be("one is left: ask(0, 0)", x.ask(0, 0), NONE);
        be("one is left: ask(0, 1)", x.ask(0, 1), NONE);
        x.see(4, 0, 1);
        be("none is left", x.ask(0, 0), NONE);
        x = Due.told("plain 2 0;");
        be("two: ask(0, 0)", x.ask(0, 0), 0);
        be("two: ask(0, 1)", x.ask(0, 1), 1);
        // By hand 0 and 1 it beats in tick 2, by 2 in tick 1, by 3 in this one.
        x = Due.told("plain 4 0;plain 3 1;push 3;");
        be("halved by pushes: ask(0, 0)", x.ask(0, 0), 2);
        be("halved by pushes: ask(0, 1)", x.ask(0, 1), 2);
        x = Due.told("shy 10 0;heavy 14 5;push 3;");
        be("in tick 60: ask(0, 0)", x.ask(0, 0), 60);
        be("in tick 60: ask(0, 1)", x.ask(0, 1), 7);
        x = Due.told("plain 4 0;plain 3 1;push 3;");
        for (int v : new int[] {-1, 2, LOW, HIGH}) {
            be("ask(" + v + ", 0)", x.ask(v, 0), BAD);
            be("ask(0, " + v + ")", x.ask(0, v), BAD);
        }
    }

    // 32
    private static void drift() {
        be("seed 0, n 1", Due.told("plain 10 7;").drift(0, 1, 1), 9);
        be("seed 0, n 1", Due.told("plain 10 7;").drift(0, 1, 0), 0);
        be("seed 0, n 1, it beats", Due.told("plain 10 8;").drift(0, 1, 0), 1);
        be("seed 0, n 1, it beats", Due.told("plain 10 8;").drift(0, 1, 1), 0);
        // Seed 1 becomes 1103527590: got is 16838, clock 16838 mod 3 is 2, 16838 / 8 mod 5 is 4: by 5.
        BeamClocks x = Due.told("plain 30 20;plain 30 20;plain 30 20;");
        be("seed 1, n 1", x.drift(1, 1, 1), 68);
        be("it is by itself", x.rule(5), 60);
        be("it is by itself", x.rule(2), 0);
        be("drift(1, 0, 0)", x.drift(1, 0, 0), BAD);
        be("drift(1, 301, 0)", x.drift(1, 301, 0), BAD);
        be("drift(1, -1, 0)", x.drift(1, -1, 0), BAD);
        be("drift(1, 1, 2)", x.drift(1, 1, 2), BAD);
        be("drift(1, 1, -1)", x.drift(1, 1, -1), BAD);
        be("no clocks", new BeamClocks().drift(1, 1, 0), STATE);
        be("no clocks, a bad one", new BeamClocks().drift(1, 0, 0), BAD);
        x = Due.told("plain 12 3;soft 12 8;heavy 10 0;shy 15 14;push 2;");
        int[][] due = {{7, 3, 2, 4}, {7, 20, 4, 20}, {7, 300, 62, 8}, {-3, 3, 2, 7}, {-3, 20, 5, 20}, {-3, 300, 64, 4},
            {123456789, 20, 6, 7}, {123456789, 300, 65, 10}, {LOW, 20, 4, 16}, {LOW, 300, 56, 10}};
        for (int[] d : due) {
            be("drift(" + d[0] + ", " + d[1] + ", 0)", x.drift(d[0], d[1], 0), d[2]);
            be("drift(" + d[0] + ", " + d[1] + ", 1)", x.drift(d[0], d[1], 1), d[3]);
        }
        x = Due.told("plain 10 0;push 0;");
        for (int seed : new int[] {0, 1, -1, LOW, HIGH}) {
            be("no push: drift(" + seed + ", 300, 0)", x.drift(seed, 300, 0), 30);
            be("no push: drift(" + seed + ", 299, 1)", x.drift(seed, 299, 1), 9);
        }
    }

    // 33
    private static void keep() {
        BeamClocks x = Due.told("plain 4 3;");
        for (int v : new int[] {-1, 2, LOW, HIGH}) {
            be("keep(" + v + ")", x.keep(v), BAD);
        }
        be("keep(0)", x.keep(0), 0);
        be("keep(1)", x.keep(1), 0);
        be("keep(0)", x.keep(0), 1);
        be("count(1)", x.count(1), 2);
        x.ticks(2);
        x.keep(0);
        x.ticks(1);
        be("the latest is kept", x.back(0), 2);
        be("the other is as it was", x.back(1), 0);
    }

    // 34
    private static void back() {
        BeamClocks x = Due.told("plain 4 3;shy 9 2;push 3;");
        x.ticks(3);
        for (int v : new int[] {-1, 2, LOW, HIGH}) {
            be("back(" + v + ")", x.back(v), BAD);
        }
        be("back(0)", x.back(0), STATE);
        x.keep(1);
        long was = stand(x);
        x.ticks(50);
        x.push(1);
        x.alter(0, 0, 2);
        x.alter(1, 1, 30);
        x.cut(1);
        be("back(1)", x.back(1), 3);
        be("all is as it was", stand(x), was);
        x.hang(0, 5);
        x.hang(0, 6);
        x.ticks(9);
        be("back(1) once more", x.back(1), 3);
        be("all is as it was", stand(x), was);
        x.see(5, 1, 0);
        x.back(1);
        be("what is seen stays", x.count(0), 1);
        be("the image stays", x.count(1), 1);
    }

    // 35
    private static void sheet() {
        BeamClocks x = new BeamClocks();
        int[][] wrong = {{-1, 0, 1}, {4, 0, 1}, {0, -1, 1}, {0, 3, 1}, {0, 0, 41}, {0, 0, HIGH}, {4, 0, -1}, {0, 3, -1}};
        for (int[] w : wrong) {
            be("sheet(" + w[0] + ", " + w[1] + ", " + w[2] + ")", x.sheet(w[0], w[1], w[2]), BAD);
        }
        be("sheet(0, 0, -1)", x.sheet(0, 0, -1), -14);
        be("sheet(0, 2, low)", x.sheet(0, 2, LOW), -14);
        be("still nothing", x.count(3), NONE);
        be("sheet(0, 0, 0)", x.sheet(0, 0, 0), 1);
        be("an empty row", x.count(3), 0);
        be("lay(0, 0, 1)", x.lay(0, 0, 1), -12);
        be("sheet(0, 2, 40)", x.sheet(0, 2, 40), 1);
        be("count(3)", x.count(3), 40);
        x.hang(0, 9);
        x.lay(0, 1, 8);
        be("sheet(0, 2, -1)", x.sheet(0, 2, -1), -14);
        be("it stays", x.read(0, 2, 0, 1), 1);
        hands("it stays", x, 8);
        be("sheet(0, 2, 2)", x.sheet(0, 2, 2), 1);
        be("new cells are 0", x.read(0, 2, 0, 1), 1);
        hands("new cells are 0", x, 0);
    }

    // 36
    private static void lay() {
        BeamClocks x = Due.told("plain 30 5;");
        for (int v : new int[] {-1, 4, LOW, HIGH}) {
            be("lay(" + v + ", 0, 0)", x.lay(v, 0, 0), BAD);
        }
        be("nothing", x.lay(3, 0, 0), -11);
        be("nothing, an index too", x.lay(3, -1, 0), -11);
        x.sheet(3, 0, 2);
        for (int i : new int[] {-1, 2, LOW, HIGH}) {
            be("lay(3, " + i + ", 0)", x.lay(3, i, 0), -12);
        }
        be("lay(3, 1, 256 + 7)", x.lay(3, 1, 256 + 7), 1);
        be("its lowest 8 bits", x.read(3, 0, 0, 1), 1);
        hands("its lowest 8 bits", x, 7);
        x.lay(3, 1, 128);
        be("its highest bit is a sign", x.read(3, 0, 0, 1), -20);
        x.sheet(3, 1, 2);
        x.lay(3, 1, 65536 + 9);
        be("its lowest 16 bits", x.read(3, 1, 0, 1), 1);
        hands("its lowest 16 bits", x, 9);
        x.lay(3, 1, 256 + 7);
        be("all 16 bits", x.read(3, 1, 0, 1), -20);
        x.sheet(3, 2, 2);
        x.lay(3, 1, 65536 + 9);
        be("all 32 bits", x.read(3, 2, 0, 1), -20);
        x.lay(3, 1, 29);
        be("the last hand", x.read(3, 2, 0, 1), 1);
        hands("the last hand", x, 29);
    }

    private static BeamClocks withSheet(int lane, int... cells) {
        BeamClocks x = Due.told("plain 5 1;soft 9 3;");
        x.sheet(1, lane, cells.length);
        for (int i = 0; i < cells.length; i++) {
            x.lay(1, i, cells[i]);
        }
        return x;
    }

    // 37
    private static void read() {
        for (int lane = 0; lane < 3; lane++) {
            BeamClocks x = withSheet(lane, 0, 4, 1, 8, 0, 2, 1);
            be("read(1, lane, 0, 0)", x.read(1, lane, 0, 0), 0);
            be("read(1, lane, 0, 2)", x.read(1, lane, 0, 2), 2);
            hands("read(1, lane, 0, 2)", x, 4, 8);
            be("read(1, lane, 4, 1)", x.read(1, lane, 4, 1), 1);
            hands("read(1, lane, 4, 1)", x, 2, 8);
            be("a later one of the same clock", x.read(1, lane, 0, 3), 3);
            hands("a later one of the same clock", x, 2, 8);
        }
        BeamClocks x = withSheet(1, 0, 4, 1, 8, 1);
        be("half a pair", x.read(1, 1, 0, 20), 2);
        be("half a pair: torn()", x.torn(), 2);
        hands("those ahead came", x, 4, 8);
        x = withSheet(1, 0, 4, 1, 8, 0, 5, 9);
        be("the third is refused: STATE", x.read(1, 1, 0, 3), -22);
        hands("none came", x, 1, 3);
        be("the first met is the refusal", x.read(1, 1, 0, 20), -22);
        be("the first met is the index", x.read(1, 1, 6, 1), 0);
        be("the first met is the index: torn()", x.torn(), 2);
        be("a clock that is not there", x.read(1, 1, 1, 1), -20);
        for (int wrong : new int[] {-1, 2, 30000}) {
            x = withSheet(1, 1, 0, wrong, 1);
            be("clock " + wrong, x.read(1, 1, 0, 2), -21);
            hands("none came", x, 1, 3);
            x = withSheet(1, 1, 0, 0, wrong == 2 ? 5 : wrong);
            be("hand " + wrong, x.read(1, 1, 0, 2), -21);
        }
        for (int v : new int[] {-1, 4, LOW, HIGH}) {
            be("read(" + v + ", 1, 0, 1)", x.read(v, 1, 0, 1), BAD);
        }
        for (int v : new int[] {-1, 3, LOW, HIGH}) {
            be("read(1, " + v + ", 0, 1)", x.read(1, v, 0, 1), BAD);
        }
        for (int v : new int[] {-1, 21, LOW, HIGH}) {
            be("read(1, 1, 0, " + v + ")", x.read(1, 1, 0, v), BAD);
        }
        for (int f : new int[] {-1, 4, LOW, HIGH, HIGH - 1, -40}) {
            be("read(1, 1, " + f + ", 20)", x.read(1, 1, f, 20), 0);
            be("torn()", x.torn(), 2);
        }
        x = withSheet(1, 1, 0);
        x.cut(1);
        be("a clock that was cut", x.read(1, 1, 0, 1), -20);
        x = withSheet(2, new int[40]);
        be("twenty of them", x.read(1, 2, 0, 20), 20);
        be("twenty of them from 1", x.read(1, 2, 1, 20), 19);
    }

    // 38
    private static void torn() {
        BeamClocks x = withSheet(1, 0, 4, 0, 9);
        be("read as bytes", x.read(1, 0, 0, 1), 0);
        be("cast", x.torn(), 3);
        be("read as ints, an index too", x.read(1, 2, -1, 1), 0);
        be("cast comes first", x.torn(), 3);
        be("a bad read", x.read(4, 0, 0, 1), BAD);
        be("it is not told of", x.torn(), 3);
        be("a refused read", x.read(1, 1, 0, 2), -21);
        be("it did not come to an end", x.torn(), 3);
        be("read of nothing", x.read(2, 0, -1, 1), 0);
        be("null", x.torn(), 1);
        be("read", x.read(1, 1, 0, 1), 1);
        be("none", x.torn(), 0);
        be("read behind the end", x.read(1, 1, 3, 1), 0);
        be("index", x.torn(), 2);
        be("read of none", x.read(2, 0, 0, 0), 0);
        be("none is read, none found", x.torn(), 0);
        x.read(1, 1, 4, 1);
        Due.text(x, "plain 4 1;");
        be("a text leaves it", x.torn(), 2);
    }

    // 39
    private static void count() {
        BeamClocks x = Due.told("plain 12 3;soft 12 8;heavy 10 0;shy 15 14;");
        x.see(1, 1, 1);
        x.keep(1);
        x.feed(33);
        x.feed(33);
        x.sheet(1, 0, 9);
        int[] due = {1, 1, 2, NONE, 49, 6};
        for (int what = 0; what < 6; what++) {
            be("count(" + what + ")", x.count(what), due[what]);
        }
        x.sheet(0, 0, 7);
        be("count(3)", x.count(3), 7);
        x.cut(2);
        be("count(4)", x.count(4), 24);
        be("count(5)", x.count(5), 1);
        for (int v : new int[] {-1, 6, LOW, HIGH}) {
            be("count(" + v + ")", x.count(v), BAD);
        }
    }

    /** Five CLOCKS, six SEEN: every row in use up to its end. */
    private static void allThatThereMayBe() {
        BeamClocks x = Due.told("plain 2 1;soft 2 1;heavy 2 1;shy 2 1;plain 2 1;push 5;");
        for (int n = 0; n < 6; n++) {
            be("the " + n + "th seen", x.see(n, 4, 1 - n % 2), n + 1);
        }
        be("hands(4)", x.hands(4), 2);
        be("kinds(4)", x.kinds(4), 15);
        be("periods(4)", x.periods(4), 4);
        be("ask(4, 0)", x.ask(4, 0), NONE);
        be("again()", x.again(), 2);
        be("beats(0)", x.beats(0), 31);
        be("runs(300, 0)", x.runs(300, 0), 750);
        be("runs(1, 4)", x.runs(1, 4), 0);
        be("runs(2, 4)", x.runs(2, 4), 5);
        be("away(0)", x.away(0), NONE);
        be("mean(5, 8, 0)", x.mean(5, 8, 0), 20);
        be("luck(5, 4, 8, 0)", x.luck(5, 4, 8, 0), 1);
        be("knock(4, 5)", x.knock(4, 5), 1);
        be("count(4)", x.count(4), 10);
        be("count(5)", x.count(5), 6);
        be("keep(1)", x.keep(1), 0);
        be("ticks(100)", x.ticks(100), 250);
        be("back(1)", x.back(1), 0);
        hands("back(1)", x, 1, 1, 1, 1, 1);
    }
}
