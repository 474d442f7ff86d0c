/** The boundary cases that the promises name, promise by promise, sentence by sentence. */
public final class EdgesTest {
    private static final int BAD = BeamClocks.BAD, STATE = BeamClocks.STATE, FULL = BeamClocks.FULL, NONE = BeamClocks.NONE;
    private static final int LOW = Integer.MIN_VALUE, HIGH = Integer.MAX_VALUE;

    public static void main(String[] args) {
        aNewObject();
        feed();
        end();
        text();
        fault();
        rule();
        clock();
        alterKindAndPeriod();
        alterHand();
        push();
        hang();
        cut();
        knock();
        ticks();
        runs();
        ahead();
        beats();
        together();
        again();
        period();
        hand();
        kind();
        force();
        away();
        luck();
        mean();
        see();
        forget();
        kinds();
        periods();
        hands();
        ask();
        drift();
        keep();
        back();
        sheet();
        lay();
        read();
        readRefused();
        readTorn();
        torn();
        count();
        Due.close("EdgesTest");
    }

    private static void be(String call, long got, long want) {
        Due.be(call, got, want);
    }

    private static void both(String call, long first, long second, long wantFirst, long wantSecond) {
        be(call + ", what 0", first, wantFirst);
        be(call + ", what 1", second, wantSecond);
    }

    private static void hands(String when, BeamClocks x, int... want) {
        be(when + ": clocks", x.rule(0), want.length);
        for (int c = 0; c < want.length; c++) {
            be(when + ": hand of " + c, x.clock(c, 2), want[c]);
        }
    }

    private static void aNewObject() {
        Due.sentence("1: No CLOCKS; SHEETS have nothing");
        BeamClocks x = new BeamClocks();
        be("clocks", x.rule(0), 0);
        be("clock 0", x.clock(0, 0), BAD);
        be("cells of sheet 0", x.count(3), NONE);
        for (int k = 0; k < 4; k++) {
            be("read of sheet " + k, x.read(k, 0, 0, 1), 0);
            be("it is nothing", x.torn(), 1);
        }
        Due.sentence("1: nothing on THE TAPE, nothing SEEN, no IMAGES, no FAULT");
        x = new BeamClocks();
        be("tape", x.count(2), 0);
        be("seen", x.count(0), 0);
        be("images", x.count(1), 0);
        be("fault()", x.fault(), 0);
        be("torn()", x.torn(), 0);
        Due.sentence("1: one object knows nothing of another");
        Stands.full();
        Stands.fullTape();
        Twin.same("a new one beside full ones", x, new BeamClocks());
    }

    private static void feed() {
        Due.sentence("2: A byte (0 to 127) comes behind THE TAPE: how many it has");
        BeamClocks x = new BeamClocks();
        be("feed(0)", x.feed(0), 1);
        be("feed(127)", x.feed(127), 2);
        be("feed(128)", x.feed(128), BAD);
        be("feed(-1)", x.feed(-1), BAD);
        be("feed(-128)", x.feed(-128), BAD);
        be("feed(32 + 256)", x.feed(32 + 256), BAD);
        be("the third", x.feed(32), 3);
        Due.sentence("2: FULL: more than 160");
        for (int n = 4; n <= 160; n++) {
            be("the " + n + "th", x.feed(32), n);
        }
        be("the 161st", x.feed(32), FULL);
        be("the 161st once more", x.feed(0), FULL);
        Twin.unchanged("the 161st", Stands::fullTape, y -> y.feed(33), FULL);
        be("one is taken off", x.end(159), 160);
        be("then there is room for one", x.feed(32), 160);
        be("and for no more", x.feed(32), FULL);
    }

    private static void end() {
        Due.sentence("3: THE TAPE keeps its first n bytes: how many it had");
        BeamClocks x = new BeamClocks();
        be("end(0) of none", x.end(0), 0);
        Due.feed(x, "shy 9 5;!");
        be("all of them", x.end(9), 9);
        be("but the last", x.end(8), 9);
        be("the first ones are kept", x.text(), 1);
        hands("the first ones are kept", x, 5);
        Due.feed(x, "abc");
        be("none of them", x.end(0), 3);
        be("text of none", x.text(), 0);
        Due.feed(x, "!!");
        x.end(0);
        Due.feed(x, "shy 9 4;");
        be("what comes then stands at place 0", x.text(), 1);
        Due.sentence("3: BAD");
        x = new BeamClocks();
        be("end(1) of none", x.end(1), BAD);
        Due.feed(x, "ab");
        be("end(3) of two", x.end(3), BAD);
        be("end(-1)", x.end(-1), BAD);
        be("both are there", x.end(2), 2);
        be("end(161) of 160", Stands.fullTape().end(161), BAD);
        be("end(160) of 160", Stands.fullTape().end(160), 160);
    }

    private static void text() {
        Due.sentence("4: how many lines");
        BeamClocks x = new BeamClocks();
        be("none", x.text(), 0);
        be("blanks", Due.text(x, "  "), 0);
        be("one", Due.text(x, "push 2;"), 1);
        be("six", Due.text(x, "shy 2 0;shy 2 0;shy 2 0;shy 2 0;shy 2 0;push 2;"), 6);
        Due.sentence("4: THE TAPE (empty then)");
        be("behind one that is taken", x.count(2), 0);
        be("so that nothing is told then", x.text(), 0);
        be("no clocks", x.rule(0), 0);
        be("a fault", Due.text(x, "shy 2 2;"), -16);
        be("behind a fault", x.count(2), 0);
        Due.sentence("4: -10 less the place of its FAULT");
        be("place 0", Due.text(x, "!"), -10);
        be("place 1", Due.text(x, " !"), -11);
        be("place 159", Due.text(x, " ".repeat(159) + "!"), -169);
        be("the end, the length", Due.text(x, "shy" + " ".repeat(157)), -170);
        Due.sentence("4: that which was told stays");
        x = Due.told("plain 9 5;push 4;");
        be("the second line is faulty", Due.text(x, "shy 3 2;push 6;"), -23);
        hands("clocks", x, 5);
        be("kind", x.clock(0, 0), 0);
        be("push", x.rule(1), 4);
        be("the first line is faulty", Due.text(x, "push 3;shy 3 3;"), -23);
        be("push", x.rule(1), 4);
    }

    private static void fault() {
        Due.sentence("5: The FAULT of the latest text(); 0");
        BeamClocks x = new BeamClocks();
        be("none yet", x.fault(), 0);
        String[] texts = {"!", "bell", "push 6;", "push 1;push 1;", "shy 2 0;shy 2 0;shy 2 0;shy 2 0;shy 2 0;shy 2 0;"};
        for (int i = 0; i < texts.length; i++) {
            Due.text(x, texts[i]);
            be(texts[i], x.fault(), i + 1);
            be("asked once more", x.fault(), i + 1);
        }
        x.feed(33);
        x.end(0);
        x.feed(200);
        x.hang(9, 9);
        be("what comes between changes nothing", x.fault(), 5);
        x.text();
        be("one that is taken", x.fault(), 0);
    }

    private static void rule() {
        Due.sentence("6: 0 to 5, of no CLOCKS");
        int[] none = {0, 1, 0, 0, 0, 0};
        for (int what = 0; what < 6; what++) {
            be("rule(" + what + ")", new BeamClocks().rule(what), none[what]);
        }
        Due.sentence("6: 3 how many times all have BEATEN, summed");
        BeamClocks x = Due.told("heavy 2 1;shy 2 1;soft 3 2;push 0;");
        x.ticks(1);
        be("each once", x.rule(3), 3);
        x.ticks(2);
        be("two of them twice", x.rule(3), 5);
        x.hang(0, 9);
        be("a new one has not", x.rule(3), 5);
        x.cut(2);
        be("those that are there", x.rule(3), 4);
        Due.sentence("6: 4 who BEATS in this TICK (bits)");
        be("none", Due.told("plain 5 3;plain 2 0;").rule(4), 0);
        be("the first", Due.told("plain 5 4;plain 2 0;").rule(4), 1);
        be("the last of five", Due.told("shy 2 0;shy 2 0;shy 2 0;shy 2 0;shy 2 1;").rule(4), 16);
        be("all five", Due.told("shy 2 1;shy 3 2;shy 4 3;shy 5 4;shy 30 29;").rule(4), 31);
        Due.sentence("6: 5 HANDS, summed");
        be("at the most", Due.told("shy 30 29;shy 30 29;shy 30 29;shy 30 29;shy 30 29;").rule(5), 145);
    }

    private static void clock() {
        Due.sentence("7: 3 how many times it has BEATEN");
        BeamClocks x = Due.told("plain 2 0;shy 30 29;push 0;");
        be("none", x.clock(0, 3), 0);
        x.ticks(1);
        both("the other alone", x.clock(0, 3), x.clock(1, 3), 0, 1);
        x.ticks(1);
        both("each once", x.clock(0, 3), x.clock(1, 3), 1, 1);
        Due.sentence("7: 4 whether it GOES ON (1, 0), were it PUSHED now");
        x = Due.told("plain 8 3;");
        be("twice 3 is below 8", x.clock(0, 4), 0);
        x.alter(0, 2, 4);
        be("twice 4 is 8", x.clock(0, 4), 1);
        x.alter(0, 1, 9);
        be("twice 4 is below 9", x.clock(0, 4), 0);
        x.alter(0, 2, 8);
        be("twice 8 is above 9", x.clock(0, 4), 1);
        x.alter(0, 0, 3);
        be("shy", x.clock(0, 4), 0);
        Due.sentence("7: BAD");
        be("what 5", x.clock(0, 5), BAD);
        be("what -1", x.clock(0, -1), BAD);
        be("clock 1 of one", x.clock(1, 0), BAD);
        be("clock -1", x.clock(-1, 0), BAD);
    }

    private static void alterKindAndPeriod() {
        Due.sentence("8: KIND of a CLOCK becomes v: what it was");
        BeamClocks x = Due.told("soft 10 4;plain 5 0;");
        be("to 0", x.alter(0, 0, 0), 1);
        be("to 3", x.alter(0, 0, 3), 0);
        be("to 4", x.alter(0, 0, 4), BAD);
        be("to -1", x.alter(0, 0, -1), BAD);
        be("it is 3", x.clock(0, 0), 3);
        be("of another, to 2", x.alter(1, 0, 2), 0);
        be("of another, from 2", x.alter(1, 0, 1), 2);
        Due.sentence("8: PERIOD of a CLOCK becomes v: what it was");
        be("to 30", x.alter(0, 1, 30), 10);
        be("to 31", x.alter(0, 1, 31), BAD);
        be("to 2, its hand at 0", x.alter(1, 1, 2), 5);
        be("to 1", x.alter(1, 1, 1), BAD);
        be("to what it is", x.alter(1, 1, 2), 2);
        Due.sentence("8: STATE: HAND would be PERIOD or more, by a PERIOD");
        be("hand and 1", x.alter(0, 1, 5), 30);
        be("hand", x.alter(0, 1, 4), STATE);
        be("hand less 1", x.alter(0, 1, 3), STATE);
        be("2", x.alter(0, 1, 2), STATE);
        be("1 is BAD", x.alter(0, 1, 1), BAD);
        both("it stays", x.clock(0, 1), x.clock(0, 2), 5, 4);
        x = Due.told("plain 30 29;");
        be("29 of 30", x.alter(0, 1, 29), STATE);
        be("30 of 30", x.alter(0, 1, 30), 30);
        Twin.unchanged("a STATE", () -> twoAndCells(0, 4), y -> y.alter(1, 1, 3), STATE);
        Due.sentence("8: all else of it stays");
        x = Due.told("plain 5 4;shy 9 1;push 0;");
        x.ticks(3);
        x.alter(0, 0, 2);
        x.alter(0, 1, 29);
        x.alter(0, 2, 28);
        be("beaten", x.clock(0, 3), 1);
        be("tick", x.rule(2), 3);
        be("the other", x.clock(1, 2), 4);
        be("who beats", x.rule(4), 1);
    }

    private static void alterHand() {
        Due.sentence("8: HAND of a CLOCK becomes v: what it was");
        BeamClocks x = Due.told("soft 10 4;plain 30 0;");
        be("to 0", x.alter(0, 2, 0), 4);
        be("to period less 1", x.alter(0, 2, 9), 0);
        be("to 29 of 30", x.alter(1, 2, 29), 0);
        Due.sentence("8: STATE: HAND would be PERIOD or more, by a HAND");
        be("to period", x.alter(0, 2, 10), STATE);
        be("to 29 of 10", x.alter(0, 2, 29), STATE);
        hands("they stay", x, 9, 29);
        Twin.unchanged("a STATE", Stands::full, y -> y.alter(3, 2, 2), STATE);
        Due.sentence("8: BAD (HAND: 0 to 29)");
        be("to 30 of 10", x.alter(0, 2, 30), BAD);
        be("to 30 of 30", x.alter(1, 2, 30), BAD);
        be("to -1", x.alter(0, 2, -1), BAD);
        be("to low", x.alter(0, 2, LOW), BAD);
        be("to high", x.alter(0, 2, HIGH), BAD);
        be("what 3", x.alter(0, 3, 0), BAD);
        be("what -1", x.alter(0, -1, 0), BAD);
        be("clock 2 of two", x.alter(2, 2, 0), BAD);
        hands("they stay", x, 9, 29);
    }

    private static void push() {
        Due.sentence("9: PUSH becomes v: what it was. BAD");
        BeamClocks x = new BeamClocks();
        be("push(0)", x.push(0), 1);
        be("push(-1)", x.push(-1), BAD);
        be("push(5)", x.push(5), 0);
        be("push(6)", x.push(6), BAD);
        be("it is 5", x.rule(1), 5);
        x.hang(0, 30);
        x.alter(0, 2, 14);
        be("a clock is pushed by 5", x.knock(0, 1), 9);
        x.push(0);
        be("a clock is pushed by 0", x.knock(0, 5), 9);
    }

    private static void hang() {
        Due.sentence("10: A CLOCK more, behind all others, its HAND at 0: how many there are");
        BeamClocks x = Due.told("plain 30 29;");
        be("the second", x.hang(3, 2), 2);
        hands("the second", x, 29, 0);
        both("its kind, its period", x.clock(1, 0), x.clock(1, 1), 3, 2);
        be("the third", x.hang(0, 30), 3);
        both("its kind, its period", x.clock(2, 0), x.clock(2, 1), 0, 30);
        be("the fourth", x.hang(1, 9), 4);
        be("the fifth", x.hang(2, 9), 5);
        Due.sentence("10: FULL");
        be("the sixth", x.hang(2, 9), FULL);
        be("there are five", x.rule(0), 5);
        x.cut(4);
        be("one is cut: room for one", x.hang(1, 8), 5);
        be("and for no more", x.hang(1, 8), FULL);
        Due.sentence("10: one that comes where another was has nothing of it");
        x = Due.told("plain 9 8;shy 2 1;push 0;");
        x.ticks(20);
        x.alter(1, 2, 1);
        x.cut(1);
        x.hang(0, 7);
        be("kind", x.clock(1, 0), 0);
        be("period", x.clock(1, 1), 7);
        be("hand", x.clock(1, 2), 0);
        be("beaten", x.clock(1, 3), 0);
        Due.sentence("10: BAD");
        be("kind -1", x.hang(-1, 9), BAD);
        be("kind 4", x.hang(4, 9), BAD);
        be("period 1", x.hang(0, 1), BAD);
        be("period 31", x.hang(0, 31), BAD);
        be("none came", x.rule(0), 2);
    }

    private static void cut() {
        Due.sentence("11: CLOCKS are the first n alone: how many there were");
        BeamClocks x = Due.told("plain 5 1;soft 6 2;shy 7 3;heavy 8 4;shy 9 5;");
        be("all of them", x.cut(5), 5);
        hands("all of them", x, 1, 2, 3, 4, 5);
        be("four", x.cut(4), 5);
        hands("four", x, 1, 2, 3, 4);
        be("one", x.cut(1), 4);
        hands("one", x, 1);
        be("none", x.cut(0), 1);
        be("none of none", x.cut(0), 0);
        be("who beats", x.rule(4), 0);
        Due.sentence("11: those that are cut BEAT no more");
        x = Due.told("plain 20 9;plain 2 1;push 5;");
        x.cut(1);
        be("ticks(1)", x.ticks(1), 0);
        hands("nobody pushes it", x, 10);
        Due.sentence("11: BAD");
        be("more than there are", x.cut(2), BAD);
        be("-1", x.cut(-1), BAD);
        be("6", Stands.full().cut(6), BAD);
        be("1 of none", new BeamClocks().cut(1), BAD);
        be("it is there", x.rule(0), 1);
    }

    /** A clock of this kind, period and hand, knocked by many at push 5: its hand then. */
    private static void knocked(int kind, int period, int hand, int many, int due) {
        BeamClocks x = new BeamClocks();
        x.hang(kind, period);
        x.alter(0, 2, hand);
        x.push(5);
        be("kind " + kind + ", " + hand + " of " + period + ", by " + many, x.knock(0, many), due);
        be("it is there", x.clock(0, 2), due);
        be("it has not beaten", x.clock(0, 3), 0);
        be("no tick has gone", x.rule(2), 0);
    }

    private static void knock() {
        Due.sentence("12: A CLOCK is PUSHED by hand as if MANY (1 to 5) did BEAT: its HAND then, PERIOD less 1 at most");
        knocked(0, 30, 15, 1, 20);
        knocked(0, 30, 15, 2, 25);
        knocked(0, 30, 19, 2, 29);
        knocked(0, 30, 20, 2, 29);
        knocked(0, 30, 15, 5, 29);
        knocked(0, 30, 29, 5, 29);
        knocked(1, 30, 17, 5, 29);
        knocked(1, 30, 16, 5, 28);
        knocked(2, 30, 15, 4, 29);
        knocked(2, 30, 29, 1, 29);
        knocked(0, 2, 1, 5, 1);
        Due.sentence("12: its HAND then, 0 at least");
        knocked(0, 30, 14, 2, 4);
        knocked(0, 30, 10, 2, 0);
        knocked(0, 30, 9, 2, 0);
        knocked(0, 30, 14, 5, 0);
        knocked(0, 30, 0, 5, 0);
        knocked(2, 30, 14, 1, 14);
        knocked(2, 30, 5, 2, 0);
        knocked(3, 30, 29, 5, 17);
        knocked(3, 30, 12, 5, 0);
        knocked(3, 30, 11, 5, 0);
        knocked(0, 2, 0, 5, 0);
        Due.sentence("12: the others stay");
        BeamClocks x = Due.told("plain 9 5;plain 9 5;plain 9 5;");
        x.knock(1, 1);
        hands("the others", x, 5, 6, 5);
        Due.sentence("12: BAD");
        be("many 0", x.knock(1, 0), BAD);
        be("many 6", x.knock(1, 6), BAD);
        be("clock 3 of three", x.knock(3, 1), BAD);
        be("clock -1", x.knock(-1, 1), BAD);
        hands("they stay", x, 5, 6, 5);
    }

    private static void ticks() {
        Due.sentence("13: n TICKS (0 to 100): how many BEATS are in them");
        BeamClocks x = Due.told("plain 10 0;shy 10 0;push 0;");
        be("0", x.ticks(0), 0);
        be("tick", x.rule(2), 0);
        be("1", x.ticks(1), 0);
        be("9", x.ticks(9), 2);
        be("100", x.ticks(100), 20);
        be("tick", x.rule(2), 110);
        be("101", x.ticks(101), BAD);
        be("-1", x.ticks(-1), BAD);
        be("tick", x.rule(2), 110);
        Twin.unchanged("ticks(0)", Stands::full, y -> y.ticks(0), 0);
        Due.sentence("13: FULL: TICK would be 10000 or more");
        x = Due.told("plain 10 0;");
        for (int i = 0; i < 99; i++) {
            be("100", x.ticks(100), 10);
        }
        be("tick", x.rule(2), 9900);
        be("100: 10000", x.ticks(100), FULL);
        hands("it stays", x, 0);
        be("beaten", x.rule(3), 990);
        be("98: 9998", x.ticks(98), 9);
        be("2: 10000", x.ticks(2), FULL);
        be("3: 10001", x.ticks(3), FULL);
        be("1: 9999", x.ticks(1), 0);
        be("1: 10000", x.ticks(1), FULL);
        be("0: 9999", x.ticks(0), 0);
        be("tick", x.rule(2), 9999);
        hands("tick 9999", x, 9);
        Due.sentence("13: FULL: of no CLOCKS too; what is BY TICKS goes on");
        x = Stands.late();
        x.cut(0);
        be("no clocks", x.ticks(1), FULL);
        x = Stands.late();
        be("runs(300, 1)", Integer.signum(x.runs(300, 1)), 1);
        be("beats(300)", Integer.signum(x.beats(300) + 1), 1);
        be("drift(1, 300, 0)", Integer.signum(x.drift(1, 300, 0)), 1);
        be("a text begins anew", Due.text(x, "shy 2 1;"), 1);
        be("ticks(1)", x.ticks(1), 1);
        be("tick", x.rule(2), 1);
    }

    private static void allRuns(String of, BeamClocks x, int n, int... due) {
        for (int what = 0; what < 5; what++) {
            be(of + ": runs(" + n + ", " + what + ")", x.runs(n, what), due[what]);
        }
    }

    private static void runs() {
        Due.sentence("14: BY TICKS, n of them (0 to 300)");
        BeamClocks x = Due.told("plain 3 2;soft 3 2;shy 6 2;push 0;");
        allRuns("none", x, 0, 0, 0, 0, 0, 6);
        allRuns("one", x, 1, 2, 1, 2, 0, 3);
        allRuns("three", x, 3, 2, 1, 2, 0, 9);
        allRuns("four", x, 4, 5, 2, 3, 1, 0);
        allRuns("the last", x, 300, 250, 100, 3, 50, 6);
        be("301", x.runs(301, 0), BAD);
        be("-1", x.runs(-1, 0), BAD);
        be("what 5", x.runs(1, 5), BAD);
        be("what -1", x.runs(1, -1), BAD);
        Due.sentence("14: of no CLOCKS");
        allRuns("no clocks", new BeamClocks(), 0, 0, 0, 0, 0, 0);
        allRuns("no clocks", new BeamClocks(), 300, 0, 0, 0, 0, 0);
        Due.sentence("14: how many BEAT at once in any of them at most (2)");
        x = Due.told("shy 2 1;shy 3 2;shy 4 3;shy 5 4;shy 30 28;push 0;");
        be("four in this tick", x.runs(1, 2), 4);
        be("one in the next", x.runs(2, 2), 4);
        x = Due.told("shy 2 1;shy 3 2;shy 4 3;shy 5 4;shy 30 29;push 0;");
        be("all five", x.runs(1, 2), 5);
        Due.sentence("14: from now on, not from the first TICK");
        x = Due.told("plain 3 2;");
        x.ticks(1);
        allRuns("a tick later", x, 2, 0, 0, 0, 0, 2);
        allRuns("a tick later", x, 3, 1, 1, 1, 1, 0);
    }

    private static void ahead() {
        Due.sentence("15: BY TICKS, n of them (0 to 300): HAND of a CLOCK then (what 0), how many times it BEATS in them (1)");
        BeamClocks x = Due.told("plain 7 3;shy 30 29;push 0;");
        both("none of the first", x.ahead(0, 0, 0), x.ahead(0, 0, 1), 3, 0);
        both("none of the second", x.ahead(1, 0, 0), x.ahead(1, 0, 1), 29, 0);
        both("one", x.ahead(1, 1, 0), x.ahead(1, 1, 1), 0, 1);
        both("three", x.ahead(0, 3, 0), x.ahead(0, 3, 1), 6, 0);
        both("four", x.ahead(0, 4, 0), x.ahead(0, 4, 1), 0, 1);
        both("299", x.ahead(0, 299, 0), x.ahead(0, 299, 1), 1, 43);
        both("300", x.ahead(0, 300, 0), x.ahead(0, 300, 1), 2, 43);
        both("300 of the second", x.ahead(1, 300, 0), x.ahead(1, 300, 1), 29, 10);
        x.ticks(9);
        be("what it has beaten is not counted", x.ahead(1, 0, 1), 0);
        x = Due.told("plain 2 0;plain 5 0;push 0;");
        x.ticks(20);
        both("nor what another has", x.ahead(0, 10, 1), x.ahead(1, 10, 1), 5, 2);
        Due.sentence("15: BAD");
        be("n 301", x.ahead(0, 301, 0), BAD);
        be("n -1", x.ahead(0, -1, 0), BAD);
        be("what 2", x.ahead(0, 0, 2), BAD);
        be("what -1", x.ahead(0, 0, -1), BAD);
        be("clock 2 of two", x.ahead(2, 0, 0), BAD);
        be("clock -1", x.ahead(-1, 0, 0), BAD);
    }

    private static void beats() {
        Due.sentence("16: BY TICKS: who BEATS in TICK n (0 to 300) (bits). BAD");
        BeamClocks x = Due.told("plain 7 6;shy 30 29;soft 3 1;push 0;");
        be("tick 0", x.beats(0), 3);
        be("tick 1", x.beats(1), 4);
        be("tick 299", x.beats(299), 0);
        // 300 = 10 times 30: the second; 301 = 43 times 7, 301 = 1 and 100 times 3.
        be("tick 300", x.beats(300), 2);
        be("tick 301", x.beats(301), BAD);
        be("tick -1", x.beats(-1), BAD);
        be("tick 294", x.beats(294), 1);
        be("no clocks", new BeamClocks().beats(0), 0);
        be("no clocks", new BeamClocks().beats(300), 0);
        be("the fifth", Due.told("shy 9 0;shy 9 0;shy 9 0;shy 9 0;shy 9 8;").beats(0), 16);
    }

    private static void together() {
        Due.sentence("17: BY TICKS: the first TICK (0 to 300) in which all BEAT TOGETHER");
        be("tick 0", Due.told("plain 17 16;plain 18 17;").together(), 0);
        be("tick 1", Due.told("plain 17 15;plain 18 16;").together(), 1);
        be("tick 300", Due.told("plain 17 5;plain 18 5;push 0;").together(), 300);
        be("the first of several", Due.told("plain 2 0;plain 4 0;push 0;").together(), 3);
        Due.sentence("17: NONE: in none");
        be("tick 301", Due.told("plain 17 4;plain 18 4;push 0;").together(), NONE);
        be("never", Due.told("plain 2 0;plain 2 1;").together(), NONE);
        be("no clocks", new BeamClocks().together(), NONE);
        BeamClocks x = Due.told("plain 17 4;plain 18 4;push 0;");
        x.ticks(1);
        be("a tick later it is tick 300", x.together(), 300);
    }

    private static void again() {
        Due.sentence("18: BY TICKS: behind how many (1 to 300) all HANDS are as now");
        be("no clocks: behind 1", new BeamClocks().again(), 1);
        be("behind 2", Due.told("plain 2 1;").again(), 2);
        be("behind 30", Due.told("plain 30 29;").again(), 30);
        be("behind 300", Due.told("plain 25 24;plain 12 3;push 0;").again(), 300);
        BeamClocks asked = Due.told("plain 5 4;soft 7 2;push 0;");
        be("asked once", asked.again(), 35);
        asked.beats(3);
        be("asked once more, from now", asked.again(), 35);
        be("hands alone, not who has beaten", Due.told("plain 5 4;shy 5 2;push 0;").again(), 5);
        Due.sentence("18: NONE: behind none");
        be("behind 304", Due.told("plain 16 0;plain 19 0;push 0;").again(), NONE);
        // The second sends the first to 3, which then sends it back to 0: from there they beat together for ever.
        be("as now never", Due.told("plain 4 2;plain 4 3;").again(), NONE);
    }

    private static void period() {
        Due.sentence("19: The PERIOD of a CLOCK by which all BEAT TOGETHER first soonest: 2 to 30");
        BeamClocks x = Due.told("plain 20 19;plain 10 9;");
        both("the first period", x.period(0, 0), x.period(0, 1), 2, 0);
        x = Due.told("shy 29 28;plain 5 3;push 0;");
        both("the last period", x.period(0, 0), x.period(0, 1), 30, 1);
        Due.sentence("19: its HAND, if that is PERIOD or more, is PERIOD less 1 then");
        // Its hand 5 is 4 by period 5, 3 by 4, 2 by 3, 1 by 2: by each it would beat at once, which the other does not.
        x = Due.told("shy 6 5;plain 9 7;push 0;");
        both("tick 1, by hand 5 of 7", x.period(0, 0), x.period(0, 1), 7, 1);
        x = Due.told("shy 6 5;plain 9 8;push 0;");
        both("tick 0, by 1 of 2", x.period(0, 0), x.period(0, 1), 2, 0);
        x = Due.told("shy 6 5;plain 9 6;push 0;");
        both("tick 2, by 1 of 2 at 0 and 2", x.period(0, 0), x.period(0, 1), 2, 2);
        Due.sentence("19: of several the least (what 0), in which TICK (1)");
        x = Due.told("plain 9 0;shy 12 0;push 0;");
        both("2, 3, 4, 6 and 12 do in tick 11", x.period(0, 0), x.period(0, 1), 2, 11);
        Due.sentence("19: TICK 300 is the last");
        x = Due.told("plain 17 5;plain 18 5;plain 30 0;push 0;");
        both("in tick 300: 301 is 43 times 7", x.period(2, 0), x.period(2, 1), 7, 300);
        Due.sentence("19: NONE: by none");
        x = Due.told("plain 17 4;plain 18 4;plain 30 0;push 0;");
        both("in tick 301 alone: 302 is 151 times 2", x.period(2, 0), x.period(2, 1), NONE, NONE);
        x = Due.told("plain 2 0;plain 2 1;plain 30 0;push 0;");
        both("the others never do", x.period(2, 0), x.period(2, 1), NONE, NONE);
        Due.sentence("19: BAD");
        both("clock 3 of three", x.period(3, 0), x.period(3, 1), BAD, BAD);
        both("what 2, -1", x.period(0, 2), x.period(0, -1), BAD, BAD);
    }

    private static void hand() {
        Due.sentence("20: The HAND of a CLOCK now by which all BEAT TOGETHER first soonest: 0 to PERIOD less 1");
        BeamClocks x = Due.told("shy 30 7;");
        both("the last hand of 30", x.hand(0, 0), x.hand(0, 1), 29, 0);
        x = Due.told("shy 2 0;");
        both("the last hand of 2", x.hand(0, 0), x.hand(0, 1), 1, 0);
        x = Due.told("shy 9 4;plain 9 0;push 0;");
        both("the first hand", x.hand(0, 0), x.hand(0, 1), 0, 8);
        BeamClocks hung = new BeamClocks();
        hung.hang(0, 5);
        be("of one just hung", hung.hand(0, 0), 4);
        Due.sentence("20: of several the least (what 0), in which TICK (1)");
        x = Due.told("shy 3 0;heavy 3 0;heavy 8 2;push 4;");
        both("1 and 2 do in tick 5", x.hand(0, 0), x.hand(0, 1), 1, 5);
        Due.sentence("20: TICK 300 is the last");
        x = Due.told("plain 17 5;plain 18 5;plain 2 0;push 0;");
        both("in tick 300 by 1 of 2", x.hand(2, 0), x.hand(2, 1), 1, 300);
        Due.sentence("20: NONE: by none");
        x = Due.told("plain 17 4;plain 18 4;plain 2 0;push 0;");
        both("in tick 301 alone", x.hand(2, 0), x.hand(2, 1), NONE, NONE);
        Due.sentence("20: BAD");
        both("clock 3 of three", x.hand(3, 0), x.hand(3, 1), BAD, BAD);
        both("what 2, -1", x.hand(0, 2), x.hand(0, -1), BAD, BAD);
    }

    private static void kind() {
        Due.sentence("21: The KIND of a CLOCK by which all BEAT TOGETHER first soonest: 0 to 3");
        BeamClocks x = Due.told("soft 3 0;shy 4 0;push 3;");
        both("the last kind", x.kind(0, 0), x.kind(0, 1), 3, 9);
        // In this tick the second sends the first from 15: plain to 20, soft to 17, heavy not at all, shy back.
        x = Due.told("heavy 22 14;plain 2 1;push 5;");
        both("the first kind", x.kind(0, 0), x.kind(0, 1), 0, 2);
        Due.sentence("21: of several the first (what 0), in which TICK (1)");
        x = Due.told("shy 9 3;");
        both("each does in tick 5", x.kind(0, 0), x.kind(0, 1), 0, 5);
        Due.sentence("21: TICK 300 is the last");
        x = Due.told("shy 17 5;shy 18 5;push 0;");
        both("in tick 300", x.kind(0, 0), x.kind(0, 1), 0, 300);
        Due.sentence("21: NONE: by none");
        x = Due.told("shy 17 4;shy 18 4;push 0;");
        both("in tick 301 alone", x.kind(1, 0), x.kind(1, 1), NONE, NONE);
        Due.sentence("21: BAD");
        both("clock 2 of two", x.kind(2, 0), x.kind(2, 1), BAD, BAD);
        both("what 2, -1", x.kind(0, 2), x.kind(0, -1), BAD, BAD);
    }

    private static void force() {
        Due.sentence("22: PUSH by which all BEAT TOGETHER first soonest: 0 to 5");
        BeamClocks x = Due.told("plain 4 0;plain 6 0;");
        both("the first push", x.force(0), x.force(1), 0, 11);
        x = Due.told("plain 22 14;plain 2 1;push 4;");
        both("the last push", x.force(0), x.force(1), 5, 2);
        Due.sentence("22: of several the least (what 0), in which TICK (1)");
        x = Due.told("shy 9 3;push 4;");
        both("each does in tick 5", x.force(0), x.force(1), 0, 5);
        Due.sentence("22: TICK 300 is the last");
        x = Due.told("heavy 17 5;heavy 18 5;push 3;");
        both("in tick 300: two heavy ones are not pushed by one", x.force(0), x.force(1), 0, 300);
        Due.sentence("22: NONE: by none");
        x = Due.told("heavy 17 4;heavy 18 4;push 3;");
        both("in tick 301 alone", x.force(0), x.force(1), NONE, NONE);
        both("no clocks", new BeamClocks().force(0), new BeamClocks().force(1), NONE, NONE);
        Due.sentence("22: BAD");
        both("what 2, -1", x.force(2), x.force(-1), BAD, BAD);
    }

    private static void away() {
        Due.sentence("23: The CLOCK that had better be taken away");
        BeamClocks x = Due.told("plain 5 3;plain 9 8;plain 9 8;plain 9 8;plain 9 8;");
        both("the first of five", x.away(0), x.away(1), 0, 0);
        x = Due.told("plain 9 8;plain 9 8;plain 9 8;plain 9 8;plain 5 3;");
        both("the last of five", x.away(0), x.away(1), 4, 0);
        Due.sentence("23: all others (one at least)");
        both("one alone", Due.told("plain 5 0;").away(0), Due.told("plain 5 0;").away(1), NONE, NONE);
        both("no clocks", new BeamClocks().away(0), new BeamClocks().away(1), NONE, NONE);
        x = Due.told("plain 5 0;plain 5 4;push 0;");
        both("one is left", x.away(0), x.away(1), 0, 0);
        Due.sentence("23: sooner than all do as it is");
        x = Due.told("plain 5 1;plain 6 2;push 0;");
        both("as soon as it is", x.away(0), x.away(1), NONE, NONE);
        x = Due.told("shy 5 0;plain 5 4;soft 6 1;push 2;");
        be("as it is in tick 5", x.together(), 5);
        both("sooner by one", x.away(0), x.away(1), 1, 4);
        x = Due.told("plain 5 4;plain 6 5;");
        both("all do in this tick", x.away(0), x.away(1), NONE, NONE);
        Due.sentence("23: of several the first (what 0), in which TICK (1)");
        // Without the first or without the third they do in tick 3, without the second never, nor as it is.
        x = Due.told("soft 4 0;heavy 4 0;soft 2 0;push 2;");
        be("as it is", x.together(), NONE);
        both("the first and the third", x.away(0), x.away(1), 0, 3);
        // The first beats in odd ticks, the second in even ones, the third in tick 27.
        x = Due.told("heavy 2 0;heavy 2 1;heavy 30 2;push 0;");
        both("the second alone", x.away(0), x.away(1), 1, 27);
        x = Due.told("heavy 2 0;heavy 2 1;push 0;");
        both("the sooner one stays", x.away(0), x.away(1), 0, 0);
        Due.sentence("23: TICK 300 is the last");
        x = Due.told("plain 17 5;plain 18 5;plain 30 12;push 0;");
        both("in tick 300 without the third", x.away(0), x.away(1), 2, 300);
        Due.sentence("23: NONE: none");
        x = Due.told("plain 17 4;plain 18 4;plain 30 11;push 0;");
        both("in tick 301 alone", x.away(0), x.away(1), NONE, NONE);
        Due.sentence("23: BAD");
        both("what 2, -1", x.away(2), x.away(-1), BAD, BAD);
    }

    private static void odds(BeamClocks x, int v, int c, int n, long above, long below) {
        String call = "luck(" + v + ", " + c + ", " + n + ")";
        both(call, x.luck(v, c, n, 0), x.luck(v, c, n, 1), above, below);
    }

    private static void luck() {
        Due.sentence("24: In each of n TICKS (0 to 8): none");
        BeamClocks x = Due.told("plain 4 3;plain 10 7;");
        odds(x, 3, 0, 0, 1, 1);
        odds(x, 3, 1, 0, 0, 1);
        Due.sentence("24: the beam is held by v out of ten (0 to 10)");
        odds(x, 0, 1, 1, 1, 1);
        odds(x, 1, 1, 1, 9, 10);
        odds(x, 9, 1, 1, 1, 10);
        odds(x, 10, 1, 1, 0, 1);
        odds(x, 10, 1, 2, 1, 1);
        Due.sentence("24: Fractions are in lowest terms (0 is 0 by 1)");
        odds(x, 5, 1, 1, 1, 2);
        odds(x, 4, 1, 1, 3, 5);
        odds(x, 4, 1, 2, 2, 5);
        odds(x, 5, 0, 2, 0, 1);
        Due.sentence("24: n TICKS: eight of them");
        // It comes to 5 held in five ticks, then to 7, 9, 11 pushed in three: .1 by five, .9 by three.
        odds(Due.told("plain 2 0;plain 2 1;plain 12 0;"), 1, 2, 8, 729, 100000000);
        odds(Due.told("shy 10 1;"), 7, 0, 8, 1, 1);
        odds(Due.told("shy 10 2;"), 7, 0, 8, 0, 1);
        Due.sentence("24: that a CLOCK BEATS in TICK n, behind them");
        odds(Due.told("plain 2 1;plain 20 17;"), 3, 1, 1, 7, 10);
        odds(Due.told("plain 2 1;plain 20 17;"), 3, 1, 0, 0, 1);
        odds(Due.told("plain 2 1;plain 20 18;"), 3, 1, 0, 0, 1);
        odds(Due.told("plain 2 1;plain 20 19;"), 3, 1, 0, 1, 1);
        Due.sentence("24: BAD");
        both("v 11, -1", x.luck(11, 0, 1, 0), x.luck(-1, 0, 1, 1), BAD, BAD);
        both("clock 2 of two, -1", x.luck(3, 2, 1, 0), x.luck(3, -1, 1, 1), BAD, BAD);
        both("n 9, -1", x.luck(3, 0, 9, 0), x.luck(3, 0, -1, 1), BAD, BAD);
        both("what 2, -1", x.luck(3, 0, 1, 2), x.luck(3, 0, 1, -1), BAD, BAD);
        be("no clocks", new BeamClocks().luck(3, 0, 1, 0), BAD);
    }

    private static void means(BeamClocks x, int v, int n, long above, long below) {
        String call = "mean(" + v + ", " + n + ")";
        both(call, x.mean(v, n, 0), x.mean(v, n, 1), above, below);
    }

    private static void mean() {
        Due.sentence("25: the mean of how many BEATS are in the n TICKS: none of them");
        BeamClocks x = Due.told("plain 4 3;plain 10 7;");
        means(x, 3, 0, 0, 1);
        means(new BeamClocks(), 3, 0, 0, 1);
        means(new BeamClocks(), 3, 8, 0, 1);
        Due.sentence("25: in the n TICKS, not in TICK n");
        means(x, 3, 1, 1, 1);
        means(x, 3, 2, 17, 10);
        Due.sentence("25: held by v out of ten (0 to 10)");
        means(x, 0, 2, 2, 1);
        means(x, 1, 2, 19, 10);
        means(x, 9, 2, 11, 10);
        means(x, 10, 2, 1, 1);
        Due.sentence("25: in lowest terms");
        means(x, 5, 2, 3, 2);
        means(x, 4, 2, 8, 5);
        Due.sentence("25: eight TICKS");
        means(Due.told("shy 8 0;push 0;"), 3, 8, 1, 1);
        means(Due.told("shy 9 0;push 0;"), 3, 8, 0, 1);
        means(Due.told("plain 2 1;plain 2 1;plain 2 1;plain 2 1;plain 2 1;"), 3, 8, 20, 1);
        // The two beat 8 times; the third in the eighth tick if it came to 11 in seven: by one way, or by none.
        means(Due.told("plain 2 0;plain 2 1;plain 12 1;"), 1, 8, 80000729L, 10000000L);
        Due.sentence("25: BAD");
        both("v 11, -1", x.mean(11, 1, 0), x.mean(-1, 1, 1), BAD, BAD);
        both("n 9, -1", x.mean(3, 9, 0), x.mean(3, -1, 1), BAD, BAD);
        both("what 2, -1", x.mean(3, 1, 2), x.mean(3, 1, -1), BAD, BAD);
    }

    private static void see() {
        Due.sentence("26: in TICK n (0 to 60) a CLOCK BEATS (v 1), or does not (0): how many are");
        BeamClocks x = Due.told("plain 5 3;shy 9 0;");
        be("tick 0", x.see(0, 0, 0), 1);
        be("tick 60", x.see(60, 1, 1), 2);
        be("the same once more", x.see(60, 1, 1), 3);
        be("its contrary", x.see(60, 1, 0), 4);
        Due.sentence("26: FULL");
        be("the fifth", x.see(1, 0, 1), 5);
        be("the sixth", x.see(1, 0, 1), 6);
        be("the seventh", x.see(1, 0, 1), FULL);
        be("seen", x.count(0), 6);
        x.forget(5);
        be("one is forgotten: room for one", x.see(1, 0, 1), 6);
        be("and for no more", x.see(1, 0, 1), FULL);
        Due.sentence("26: BAD");
        x.forget(0);
        be("tick 61", x.see(61, 0, 0), BAD);
        be("tick -1", x.see(-1, 0, 0), BAD);
        be("clock 2 of two", x.see(0, 2, 0), BAD);
        be("clock -1", x.see(0, -1, 0), BAD);
        be("v 2", x.see(0, 0, 2), BAD);
        be("v -1", x.see(0, 0, -1), BAD);
        be("seen", x.count(0), 0);
        be("no clocks", new BeamClocks().see(0, 0, 0), BAD);
    }

    private static void forget() {
        Due.sentence("27: SEEN are the first n alone: how many there were");
        BeamClocks x = Due.told("plain 5 3;");
        be("none of none", x.forget(0), 0);
        for (int n = 0; n < 6; n++) {
            x.see(n, 0, n == 1 ? 1 : 0);
        }
        be("all six", x.forget(6), 6);
        be("five", x.forget(5), 6);
        be("two", x.forget(2), 5);
        be("the first two say it", x.hands(0), 1 << 3);
        be("one", x.forget(1), 2);
        be("the first says it", x.hands(0), 15);
        be("none", x.forget(0), 1);
        be("nothing is said", x.hands(0), 31);
        Due.sentence("27: BAD");
        be("one of none", x.forget(1), BAD);
        x.see(0, 0, 0);
        be("two of one", x.forget(2), BAD);
        be("-1", x.forget(-1), BAD);
        be("seven of six", Stands.full().forget(7), BAD);
        be("seen", x.count(0), 1);
    }

    private static void kinds() {
        Due.sentence("28: KINDS of a CLOCK (bits) by which, all else as it is, all is as SEEN");
        BeamClocks x = Due.told("plain 4 3;soft 10 7;push 2;");
        be("nothing seen: all", x.kinds(1), 15);
        x.see(1, 1, 1);
        be("plain, soft", x.kinds(1), 3);
        x.see(0, 1, 1);
        be("none", x.kinds(1), 0);
        x.forget(0);
        x.see(3, 1, 1);
        be("shy", x.kinds(1), 8);
        x.forget(0);
        x.see(0, 0, 1);
        be("what is seen of another", x.kinds(1), 15);
        x.see(0, 0, 0);
        be("what is seen twice, otherwise", x.kinds(1), 0);
        Due.sentence("28: SEEN in TICK 60");
        x = Due.told("plain 30 29;");
        x.see(60, 0, 1);
        be("it does", x.kinds(0), 15);
        x.forget(0);
        x.see(60, 0, 0);
        be("it does not", x.kinds(0), 0);
        Due.sentence("28: A CLOCK that is there no more BEATS never");
        for (int v = 0; v < 2; v++) {
            x = Due.told("plain 2 1;plain 2 1;");
            x.see(0, 1, v);
            x.cut(1);
            be("seen " + v + ": kinds", x.kinds(0), v == 0 ? 15 : 0);
            be("seen " + v + ": periods", x.periods(0), v == 0 ? 0x7FFFFFFC : 0);
            be("seen " + v + ": hands", x.hands(0), v == 0 ? 3 : 0);
        }
        x.hang(0, 2);
        x.alter(1, 2, 1);
        be("one is there again", x.kinds(0), 15);
        Due.sentence("28: BAD");
        both("clock 2 of two, -1", x.kinds(2), x.kinds(-1), BAD, BAD);
    }

    private static void periods() {
        Due.sentence("29: PERIODS of a CLOCK (bits 2 to 30; as by period())");
        BeamClocks x = Due.told("plain 10 0;");
        be("nothing seen: all", x.periods(0), 0x7FFFFFFC);
        x.see(1, 0, 1);
        be("2 alone", x.periods(0), 1 << 2);
        x.forget(0);
        x.see(29, 0, 1);
        x.see(9, 0, 0);
        x.see(14, 0, 0);
        be("30 and 2, 3, 6 do; without 10, 5, 15: 30, 3 and 6 do", x.periods(0), periodsThat(29, 9, 14));
        x.forget(0);
        x.see(0, 0, 1);
        be("none", x.periods(0), 0);
        Due.sentence("29: its HAND is PERIOD less 1 then");
        x = Due.told("plain 30 29;");
        x.see(0, 0, 1);
        be("by each it is at its end", x.periods(0), 0x7FFFFFFC);
        x = Due.told("plain 29 28;");
        x.see(0, 0, 0);
        be("by 30 alone it is not", x.periods(0), 1 << 30);
        Due.sentence("29: BAD");
        both("clock 1 of one, -1", x.periods(1), x.periods(-1), BAD, BAD);
    }

    /** Periods, from hand 0 without pushes, that beat in the first tick and in neither of the others. */
    private static int periodsThat(int beats, int not, int norNot) {
        int bits = 0;
        for (int p = 2; p <= 30; p++) {
            if ((beats + 1) % p == 0 && (not + 1) % p != 0 && (norNot + 1) % p != 0) {
                bits |= 1 << p;
            }
        }
        return bits;
    }

    private static void hands() {
        Due.sentence("30: HANDS of a CLOCK now (bits 0 to 29) by which, all else as it is, all is as SEEN");
        BeamClocks x = Due.told("plain 30 7;shy 2 0;push 0;");
        both("nothing seen: all", x.hands(0), x.hands(1), 0x3FFFFFFF, 3);
        x.see(0, 0, 1);
        both("the last of 30; of the other none", x.hands(0), x.hands(1), 1 << 29, 0);
        x.forget(0);
        x.see(29, 0, 1);
        be("the first", x.hands(0), 1);
        x.see(28, 0, 1);
        be("none", x.hands(0), 0);
        x.forget(0);
        x.see(60, 1, 1);
        be("the last of 2", x.hands(1), 2);
        x.see(59, 1, 0);
        be("the last of 2, seen twice", x.hands(1), 2);
        x.see(59, 1, 1);
        be("seen otherwise", x.hands(1), 0);
        x.forget(0);
        x.see(22, 0, 1);
        x.see(1, 1, 1);
        both("each is seen by itself", x.hands(0), x.hands(1), 1 << 7, 1);
        x = new BeamClocks();
        x.hang(0, 5);
        be("of one just hung", x.hands(0), 31);
        Due.sentence("30: BAD");
        both("clock 2 of two, -1", x.hands(2), x.hands(-1), BAD, BAD);
    }

    private static void ask() {
        Due.sentence("31: The TICK (0 to 60) in which to listen: the first, the last");
        BeamClocks x = Due.told("plain 2 0;");
        both("tick 0", x.ask(0, 0), x.ask(0, 1), 0, 1);
        x = Due.told("shy 10 0;heavy 14 5;push 3;");
        both("tick 60", x.ask(0, 0), x.ask(0, 1), 60, 7);
        // In tick 61 fewer would be left, but it is not listened to then.
        x = Due.told("shy 15 4;heavy 9 0;push 4;");
        both("not in tick 61", x.ask(0, 0), x.ask(0, 1), 43, 11);
        Due.sentence("31: so that of hands() of it fewest are left at the worst, the first (what 0), how many these are (1)");
        x = Due.told("plain 10 7;");
        both("each tick leaves nine at the worst", x.ask(0, 0), x.ask(0, 1), 0, 9);
        x.see(0, 0, 0);
        x.see(1, 0, 0);
        both("it is known of two ticks", x.ask(0, 0), x.ask(0, 1), 2, 7);
        // By hand 0 and by hand 1 it beats in tick 2, by 2 in tick 1, by 3 in this one.
        x = Due.told("plain 4 0;plain 3 1;push 3;");
        both("two are left either way", x.ask(0, 0), x.ask(0, 1), 2, 2);
        Due.sentence("31: fewer than now");
        x = Due.told("plain 3 0;");
        both("of three, two", x.ask(0, 0), x.ask(0, 1), 0, 2);
        x.see(0, 0, 0);
        both("of two, one", x.ask(0, 0), x.ask(0, 1), 1, 1);
        Due.sentence("31: NONE: none");
        x.see(1, 0, 0);
        be("one is left", x.hands(0), 1);
        both("one is left", x.ask(0, 0), x.ask(0, 1), NONE, NONE);
        x.see(2, 0, 0);
        be("none is left", x.hands(0), 0);
        both("none is left", x.ask(0, 0), x.ask(0, 1), NONE, NONE);
        Due.sentence("31: BAD");
        both("clock 1 of one, -1", x.ask(1, 0), x.ask(-1, 1), BAD, BAD);
        both("what 2, -1", x.ask(0, 2), x.ask(0, -1), BAD, BAD);
    }

    private static void drift() {
        Due.sentence("32: n TICKS (1 to 300)");
        BeamClocks x = Due.told("plain 10 0;push 0;");
        both("1", x.drift(1, 1, 0), x.drift(1, 1, 1), 0, 1);
        both("300", x.drift(1, 300, 0), x.drift(1, 300, 1), 30, 0);
        both("299", x.drift(1, 299, 0), x.drift(1, 299, 1), 29, 9);
        both("301, 0", x.drift(1, 301, 0), x.drift(1, 0, 1), BAD, BAD);
        Due.sentence("32: ahead of each the seed becomes seed times 1103515245 and 12345; bits 16 to 30 of it are got");
        // Seed 0 becomes 12345, of which bits 16 to 30 are 0: clock 0 as if 1 did beat.
        x = Due.told("plain 30 20;plain 30 10;push 5;");
        be("seed 0", x.drift(0, 1, 1), 37);
        // Seed -1 becomes -1103502900, 0xBE39E1CC: got is 0x3E39, 15929: clock 15929 mod 2, 1 and 1991 mod 5: by 2.
        be("seed -1", x.drift(-1, 1, 1), 22);
        // Seed 1 becomes 1103527590: got is 16838: clock 0, 1 and 2104 mod 5: by 5. It beats: 11 goes back to 6.
        be("seed 1", x.drift(1, 1, 1), 6);
        be("it BEATS as it is pushed to its end ahead of that TICK", x.drift(1, 1, 0), 1);
        // These become 0x3FFFF, 0x40000, 0x80030000: bits 0 to 15 and bit 31 are not got. Clock 3 alone goes on.
        x = Due.told("shy 30 10;shy 30 10;shy 30 10;plain 30 20;shy 30 10;push 2;");
        be("got is 3, all bits below set", x.drift(-1152271586, 1, 1), 60 + 2 + 5);
        be("got is 4", x.drift(-1442077053, 1, 1), 60 - 1 + 5);
        be("got is 3, the sign set", x.drift(1051108995, 1, 1), 60 + 2 + 5);
        Due.sentence("32: CLOCK got modulo CLOCKS");
        // 16838 modulo 1 to 5 is 0, 0, 2, 2, 3.
        int[] which = {0, 0, 2, 2, 3};
        for (int many = 1; many <= 5; many++) {
            x = new BeamClocks();
            for (int c = 0; c < many; c++) {
                x.hang(0, 30);
                x.alter(c, 2, 10 + c);
            }
            int sum = x.rule(5);
            // By five it goes back by five, and each is one more by the tick.
            be("of " + many + ", one by five", x.drift(1, 1, 1), sum - 5 + many);
            x.alter(which[many - 1], 0, 2);
            be("of " + many + ", heavy: by four", x.drift(1, 1, 1), sum - 4 + many);
        }
        Due.sentence("32: PUSHED by hand (as by knock()), ahead of that TICK, n of them");
        for (int seed : new int[] {0, 1, -1, 7, -3, 123456789, LOW, HIGH}) {
            driftsAsByKnock(seed, 1);
            driftsAsByKnock(seed, 2);
            driftsAsByKnock(seed, 150);
        }
        Due.sentence("32: STATE: there are no CLOCKS");
        both("no clocks", new BeamClocks().drift(1, 1, 0), new BeamClocks().drift(1, 300, 1), STATE, STATE);
        Due.sentence("32: BAD");
        both("what 2, -1", x.drift(1, 1, 2), x.drift(1, 1, -1), BAD, BAD);
        both("n 0, -1 of no clocks", new BeamClocks().drift(1, 0, 0), new BeamClocks().drift(1, -1, 0), BAD, BAD);
    }

    /** The same by knock() and ticks(), the seed in 64 bits of which the lowest 32 count. */
    private static void driftsAsByKnock(int seed, int n) {
        String text = "plain 12 3;soft 12 8;heavy 10 0;shy 15 14;plain 9 4;push 2;";
        BeamClocks x = Due.told(text);
        long next = seed;
        int sum = 0;
        for (int t = 0; t < n; t++) {
            next = next * 1103515245L + 12345L & 0xFFFFFFFFL;
            int got = (int) (next >> 16 & 0x7FFF);
            x.knock(got % 5, 1 + got / 8 % 5);
            sum += x.ticks(1);
        }
        BeamClocks y = Due.told(text);
        both("drift(" + seed + ", " + n + ")", y.drift(seed, n, 0), y.drift(seed, n, 1), sum, x.rule(5));
    }

    private static void keep() {
        Due.sentence("33: IMAGE k (0, 1): whether there was one (1, 0)");
        BeamClocks x = Due.told("plain 9 5;");
        both("the first time", x.keep(0), x.keep(1), 0, 0);
        both("the second time", x.keep(0), x.keep(1), 1, 1);
        both("2, -1", x.keep(2), x.keep(-1), BAD, BAD);
        be("images", x.count(1), 2);
        Due.sentence("33: is CLOCKS (all of them), PUSH, TICK, as they are then");
        x = Stands.full();
        x.keep(0);
        x.alter(4, 0, 3);
        x.knock(0, 5);
        x.push(0);
        x.ticks(9);
        x.cut(2);
        x.back(0);
        BeamClocks other = Stands.full();
        other.keep(0);
        Twin.same("all of five", x, other);
        x = new BeamClocks();
        be("of no clocks", x.keep(1), 0);
        x.hang(0, 9);
        x.ticks(3);
        be("back to no clocks", x.back(1), 0);
        be("clocks", x.rule(0), 0);
        Due.sentence("33: the latest in place of the one before, the other stays");
        x = Due.told("plain 9 0;");
        x.keep(0);
        x.keep(1);
        x.ticks(1);
        x.keep(0);
        x.ticks(1);
        be("back(0)", x.back(0), 1);
        hands("back(0)", x, 1);
        be("back(1)", x.back(1), 0);
        hands("back(1)", x, 0);
    }

    private static void back() {
        Due.sentence("34: All is as IMAGE k: TICK");
        BeamClocks x = Due.told("plain 9 0;shy 4 3;push 3;");
        x.ticks(5);
        x.keep(1);
        hands("kept", x, 1, 0);
        x.push(5);
        x.ticks(20);
        x.hang(0, 9);
        be("back(1)", x.back(1), 5);
        hands("back(1)", x, 1, 0);
        be("push", x.rule(1), 3);
        be("tick", x.rule(2), 5);
        be("beaten", x.rule(3), 2);
        x.ticks(20);
        be("it is there still", x.back(1), 5);
        x = Stands.late();
        x.keep(0);
        x.cut(0);
        be("tick 9999", x.back(0), 9999);
        be("full", x.ticks(1), FULL);
        Due.sentence("34: STATE: there is none");
        Twin.unchanged("the other", Stands::some, y -> y.back(1), STATE);
        Twin.unchanged("both", Stands::bare, y -> y.back(0), STATE);
        Due.sentence("34: BAD");
        both("2, -1", x.back(2), x.back(-1), BAD, BAD);
    }

    private static void sheet() {
        Due.sentence("35: A SHEET is a new row of CELLS 0: 1");
        BeamClocks x = Due.told("plain 30 5;");
        Stands.cells(x, 0, 2, 0, 7);
        be("as long as the one before", x.sheet(0, 2, 2), 1);
        be("its cells are 0", x.read(0, 2, 0, 1), 1);
        hands("its cells are 0", x, 0);
        x.alter(0, 2, 5);
        be("longer", x.sheet(0, 2, 40), 1);
        be("all are 0", x.read(0, 2, 0, 20), 20);
        hands("all are 0", x, 0);
        for (int n : new int[] {0, 1, 39, 40}) {
            be("sheet of " + n, x.sheet(0, 0, n), 1);
            be("its cells", x.count(3), n);
        }
        Due.sentence("35: BAD: also n above 40");
        be("41", x.sheet(0, 0, 41), BAD);
        be("high", x.sheet(0, 0, HIGH), BAD);
        be("the row stays", x.count(3), 40);
        both("sheet 4, -1", x.sheet(4, 0, 1), x.sheet(-1, 0, 1), BAD, BAD);
        both("lane 3, -1", x.sheet(0, 3, 1), x.sheet(0, -1, 1), BAD, BAD);
        Due.sentence("35: -10 - 4");
        Twin.unchanged("-1", Stands::full, y -> y.sheet(2, 2, -1), -14);
        Twin.unchanged("low", Stands::full, y -> y.sheet(0, 1, LOW), -14);
        be("of nothing", new BeamClocks().sheet(1, 0, -1), -14);
        BeamClocks y = new BeamClocks();
        y.sheet(0, 0, -1);
        be("it is nothing still", y.count(3), NONE);
    }

    /** What a cell of this lane holds once v is laid, read as a hand of a clock of period 30: 0 to 29, or refused. */
    private static void laid(int lane, int v, int due) {
        BeamClocks x = Due.told("plain 30 29;");
        Stands.cells(x, 1, lane, 0, v);
        int came = x.read(1, lane, 0, 1);
        be("lane " + lane + ", " + v, came == 1 ? x.clock(0, 2) : came, due);
    }

    private static void lay() {
        Due.sentence("36: CELL i of a SHEET becomes v (its lowest bits): 1");
        int[] low = {0, 7, 29};
        for (int v : low) {
            for (int lane = 0; lane < 3; lane++) {
                laid(lane, v, v);
                laid(lane, v + 256, lane == 0 ? v : -20);
                laid(lane, v - 256, lane == 0 ? v : -20);
                laid(lane, v + 65536, lane < 2 ? v : -20);
                laid(lane, v - 65536, lane < 2 ? v : -20);
                laid(lane, v + (1 << 31), lane < 2 ? v : -20);
            }
        }
        laid(0, 127, -20);
        laid(0, 128, -20);
        laid(0, 255, -20);
        laid(1, 32767, -20);
        laid(1, 32768, -20);
        laid(2, HIGH, -20);
        laid(2, LOW, -20);
        Due.sentence("36: INDEX");
        BeamClocks x = Stands.some();
        be("the first", x.lay(0, 0, 0), 1);
        be("the last", x.lay(0, 3, 0), 1);
        for (int i : new int[] {-1, 4, 40, LOW, HIGH}) {
            Twin.unchanged("lay(0, " + i + ")", Stands::some, y -> y.lay(0, i, 9), -12);
        }
        x.sheet(0, 0, 0);
        be("of an empty row", x.lay(0, 0, 0), -12);
        Due.sentence("36: NULL");
        for (int i : new int[] {-1, 0, 40, LOW, HIGH}) {
            Twin.unchanged("lay(3, " + i + ")", Stands::some, y -> y.lay(3, i, 9), -11);
        }
        Due.sentence("36: BAD: k");
        both("4, -1", x.lay(4, 0, 0), x.lay(-1, 0, 0), BAD, BAD);
    }

    private static void read() {
        Due.sentence("37: n (0 to 20) times a CLOCK, a HAND are read: how many came");
        BeamClocks x = Due.told("plain 30 5;plain 30 6;");
        int[] cells = new int[40];
        for (int i = 0; i < 20; i++) {
            cells[2 * i] = i % 2;
            cells[2 * i + 1] = i;
        }
        Stands.cells(x, 0, 0, cells);
        be("none", x.read(0, 0, 0, 0), 0);
        hands("none", x, 5, 6);
        be("torn", x.torn(), 0);
        be("one", x.read(0, 0, 0, 1), 1);
        hands("one", x, 0, 6);
        be("twenty", x.read(0, 0, 0, 20), 20);
        hands("twenty", x, 18, 19);
        be("torn", x.torn(), 0);
        Due.sentence("37: two CELLS each from CELL f on");
        be("the last two", x.read(0, 0, 38, 1), 1);
        be("from the second pair", x.read(0, 0, 2, 1), 1);
        hands("from the second pair", x, 18, 1);
        x = Due.told("plain 30 5;plain 30 6;");
        Stands.cells(x, 0, 1, 9, 1, 0, 7);
        be("from an odd cell", x.read(0, 1, 1, 1), 1);
        hands("from an odd cell", x, 5, 0);
        Due.sentence("37: one behind another as by alter() of its HAND");
        x = Due.told("plain 30 5;plain 10 6;");
        Stands.cells(x, 2, 2, 0, 29, 0, 0, 1, 9, 0, 3);
        be("four", x.read(2, 2, 0, 4), 4);
        hands("the latest of each", x, 3, 9);
        Due.sentence("37: BAD: k, lane, n");
        for (int v : new int[] {-1, 21, LOW, HIGH}) {
            Twin.unchanged("n " + v, Stands::some, y -> y.read(0, 0, 0, v), BAD);
        }
        for (int v : new int[] {-1, 3, LOW, HIGH}) {
            Twin.unchanged("lane " + v, Stands::some, y -> y.read(0, v, 0, 1), BAD);
        }
        for (int v : new int[] {-1, 4, LOW, HIGH}) {
            Twin.unchanged("sheet " + v, Stands::some, y -> y.read(v, 0, 0, 1), BAD);
        }
    }

    private static BeamClocks twoAndCells(int... cells) {
        BeamClocks x = Due.told("plain 5 1;soft 30 3;");
        Stands.cells(x, 1, 2, cells);
        return x;
    }

    private static void refused(String why, int answer, int n, int... cells) {
        Twin.unchanged(why, () -> twoAndCells(cells), x -> x.read(1, 2, 0, n), answer);
    }

    private static void readRefused() {
        Due.sentence("37: -20 less i: the i-th, whole, is refused by alter() (in either way): then none came");
        refused("the first: no such clock", -20, 1, 2, 0);
        refused("the first: clock -1", -20, 1, -1, 0);
        refused("the first: clock low", -20, 1, LOW, 0);
        refused("the first: clock high", -20, 1, HIGH, 0);
        refused("the first: hand -1", -20, 1, 0, -1);
        refused("the first: hand 30", -20, 1, 1, 30);
        refused("the first: hand high", -20, 1, 1, HIGH);
        refused("the first: STATE, its period", -20, 1, 0, 5);
        refused("the first: STATE, 29", -20, 1, 0, 29);
        refused("the second", -21, 2, 0, 4, 0, 5);
        refused("the third, which changed before", -22, 3, 0, 4, 1, 29, 1, 30);
        int[] cells = new int[40];
        cells[39] = 5;
        refused("the twentieth", -39, 20, cells);
        be("but nineteen of them are taken", twoAndCells(cells).read(1, 2, 0, 19), 19);
        BeamClocks cut = Due.told("plain 5 1;soft 30 3;plain 9 2;");
        cut.cut(2);
        Stands.cells(cut, 1, 2, 2, 0);
        be("a clock that was cut", cut.read(1, 2, 0, 1), -20);
        Due.sentence("37: the first met");
        refused("two are refused", -21, 3, 0, 4, 0, 5, 0, 6);
        refused("refused ahead of the index", -21, 20, 0, 4, 0, 5, 0);
        BeamClocks x = twoAndCells(0, 4, 2);
        be("the index ahead of what is not whole", x.read(1, 2, 0, 2), 1);
        hands("the one ahead came", x, 4, 3);
        be("torn", x.torn(), 2);
        x = new BeamClocks();
        x.sheet(0, 0, 2);
        be("of no clocks", x.read(0, 0, 0, 1), -20);
    }

    /** A read that the machine refuses: so many came, by this fault; the hands then. */
    private static void tornRead(BeamClocks x, int k, int lane, int f, int n, int came, int fault) {
        String call = "read(" + k + ", " + lane + ", " + f + ", " + n + ")";
        be(call, x.read(k, lane, f, n), came);
        be(call + ": torn", x.torn(), fault);
    }

    private static void readTorn() {
        Due.sentence("37: What the machine refuses: those that were whole ahead came: INDEX");
        tornRead(twoAndCells(0, 4, 1, 8), 1, 2, 0, 2, 2, 0);
        BeamClocks x = twoAndCells(0, 4, 1, 8);
        tornRead(x, 1, 2, 0, 3, 2, 2);
        hands("two came", x, 4, 8);
        tornRead(twoAndCells(0, 4, 1, 8), 1, 2, 0, 20, 2, 2);
        x = twoAndCells(0, 4, 1);
        tornRead(x, 1, 2, 0, 2, 1, 2);
        hands("half a pair does not come", x, 4, 3);
        tornRead(twoAndCells(0, 4), 1, 2, 1, 1, 0, 2);
        tornRead(twoAndCells(0, 4), 1, 2, 2, 1, 0, 2);
        tornRead(twoAndCells(0, 4), 1, 2, 3, 1, 0, 2);
        tornRead(twoAndCells(0, 4), 1, 2, -1, 1, 0, 2);
        tornRead(twoAndCells(0, 4), 1, 2, -2, 2, 0, 2);
        tornRead(twoAndCells(0, 4), 1, 2, LOW, 20, 0, 2);
        tornRead(twoAndCells(0, 4), 1, 2, HIGH, 20, 0, 2);
        tornRead(twoAndCells(0, 4), 1, 2, HIGH - 1, 20, 0, 2);
        tornRead(twoAndCells(), 1, 2, 0, 1, 0, 2);
        tornRead(twoAndCells(0), 1, 2, 0, 1, 0, 2);
        tornRead(twoAndCells(new int[40]), 1, 2, 0, 20, 20, 0);
        tornRead(twoAndCells(new int[40]), 1, 2, 2, 20, 19, 2);
        tornRead(twoAndCells(new int[40]), 1, 2, 1, 20, 19, 2);
        tornRead(twoAndCells(new int[39]), 1, 2, 0, 20, 19, 2);
        Due.sentence("37: What the machine refuses: CAST, NULL");
        tornRead(twoAndCells(0, 4), 1, 0, 0, 1, 0, 3);
        tornRead(twoAndCells(0, 4), 1, 1, 0, 1, 0, 3);
        tornRead(twoAndCells(0, 5), 1, 1, 0, 1, 0, 3);
        tornRead(twoAndCells(0, 4), 0, 2, 0, 1, 0, 1);
        tornRead(twoAndCells(0, 4), 0, 0, 0, 20, 0, 1);
        x = twoAndCells(0, 4);
        x.read(1, 1, 0, 1);
        x.read(0, 2, 0, 1);
        hands("none came", x, 1, 3);
    }

    private static void torn() {
        Due.sentence("38: The FAULT of the latest read() that came to an end; 0");
        be("none yet", new BeamClocks().torn(), 0);
        BeamClocks x = twoAndCells(0, 4, 0, 5);
        tornRead(x, 2, 2, 0, 1, 0, 1);
        tornRead(x, 1, 2, 4, 1, 0, 2);
        tornRead(x, 1, 0, 0, 1, 0, 3);
        tornRead(x, 1, 2, 0, 1, 1, 0);
        tornRead(x, 1, 2, 4, 1, 0, 2);
        be("asked once more", x.torn(), 2);
        Due.sentence("38: one that is refused did not come to an end");
        be("BAD", x.read(1, 2, 0, 21), BAD);
        be("it stays", x.torn(), 2);
        be("refused", x.read(1, 2, 0, 2), -21);
        be("it stays", x.torn(), 2);
        Due.sentence("38: of read() alone");
        be("lay", x.lay(3, 0, 0), -11);
        be("it stays", x.torn(), 2);
        be("sheet", x.sheet(0, 0, -1), -14);
        be("it stays", x.torn(), 2);
    }

    private static void count() {
        Due.sentence("39: 0 SEEN, 1 IMAGES, 2 bytes on THE TAPE: none, all that there may be");
        BeamClocks x = new BeamClocks();
        be("none seen", x.count(0), 0);
        be("no images", x.count(1), 0);
        be("no bytes", x.count(2), 0);
        x.keep(1);
        be("one image", x.count(1), 1);
        x.keep(1);
        be("the same image", x.count(1), 1);
        x.keep(0);
        be("both images", x.count(1), 2);
        be("six seen", Stands.full().count(0), 6);
        be("160 bytes", Stands.fullTape().count(2), 160);
        Due.sentence("39: 3 CELLS of SHEET 0 (NONE: nothing)");
        be("nothing", x.count(3), NONE);
        x.sheet(1, 0, 9);
        be("nothing, beside another", x.count(3), NONE);
        x.sheet(0, 2, 0);
        be("no cells", x.count(3), 0);
        x.sheet(0, 2, 40);
        be("40 cells", x.count(3), 40);
        Due.sentence("39: 4 PERIODS of all, 5 KINDS of all as numbers, summed");
        both("no clocks", x.count(4), x.count(5), 0, 0);
        x = Due.told("shy 30 0;shy 30 0;shy 30 0;shy 30 0;shy 30 0;");
        both("at the most", x.count(4), x.count(5), 150, 15);
        x.cut(1);
        both("those that are there", x.count(4), x.count(5), 30, 3);
        x = new BeamClocks();
        x.hang(3, 7);
        x.hang(2, 9);
        both("hung", x.count(4), x.count(5), 16, 5);
        x.alter(0, 1, 8);
        x.alter(0, 0, 1);
        both("altered", x.count(4), x.count(5), 17, 3);
        Due.sentence("39: BAD");
        both("6, -1", x.count(6), x.count(-1), BAD, BAD);
    }
}
