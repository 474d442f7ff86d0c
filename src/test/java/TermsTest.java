/** The boundary cases that the document names under "Terms", sentence by sentence. */
public final class TermsTest {
    private static final int BAD = BeamClocks.BAD, STATE = BeamClocks.STATE, FULL = BeamClocks.FULL, NONE = BeamClocks.NONE;

    public static void main(String[] args) {
        answers();
        clocks();
        shove();
        goesOn();
        tape();
        tokens();
        noToken();
        tooLong();
        cannotStand();
        theEnd();
        outOfBounds();
        secondPush();
        sixthClock();
        firstMet();
        textThatIsTaken();
        tick();
        pushedAtTheBounds();
        together();
        byTicks();
        seen();
        sheets();
        Due.close("TermsTest");
    }

    private static void be(String call, long got, long want) {
        Due.be(call, got, want);
    }

    private static void hands(String when, BeamClocks x, int... want) {
        be(when + ": clocks", x.rule(0), want.length);
        for (int c = 0; c < want.length; c++) {
            be(when + ": hand of " + c, x.clock(c, 2), want[c]);
        }
    }

    /** BAD, STATE, FULL, NONE in this order, where two of them fit. */
    private static void answers() {
        Due.sentence("Answers: the first that fits");
        Twin.unchanged("feed: BAD ahead of FULL", Stands::fullTape, x -> x.feed(128), BAD);
        Twin.unchanged("feed: FULL", Stands::fullTape, x -> x.feed(127), FULL);
        Twin.unchanged("alter: BAD ahead of STATE", Stands::full, x -> x.alter(4, 2, 30), BAD);
        Twin.unchanged("alter: STATE", Stands::full, x -> x.alter(4, 2, 29), STATE);
        Twin.unchanged("hang: BAD ahead of FULL", Stands::full, x -> x.hang(4, 2), BAD);
        Twin.unchanged("hang: BAD ahead of FULL", Stands::full, x -> x.hang(0, 31), BAD);
        Twin.unchanged("hang: FULL", Stands::full, x -> x.hang(0, 30), FULL);
        Twin.unchanged("ticks: BAD ahead of FULL", Stands::late, x -> x.ticks(101), BAD);
        Twin.unchanged("ticks: BAD ahead of FULL", Stands::late, x -> x.ticks(-1), BAD);
        Twin.unchanged("ticks: FULL", Stands::late, x -> x.ticks(100), FULL);
        Twin.unchanged("see: BAD ahead of FULL", Stands::full, x -> x.see(61, 0, 0), BAD);
        Twin.unchanged("see: BAD ahead of FULL", Stands::full, x -> x.see(0, 5, 0), BAD);
        Twin.unchanged("see: BAD ahead of FULL", Stands::full, x -> x.see(0, 0, 2), BAD);
        Twin.unchanged("see: FULL", Stands::full, x -> x.see(60, 4, 1), FULL);
        Twin.unchanged("drift: BAD ahead of STATE", Stands::bare, x -> x.drift(0, 301, 0), BAD);
        Twin.unchanged("drift: BAD ahead of STATE", Stands::bare, x -> x.drift(0, 1, 2), BAD);
        Twin.unchanged("drift: STATE", Stands::bare, x -> x.drift(0, 1, 0), STATE);
        Twin.unchanged("back: BAD ahead of STATE", Stands::bare, x -> x.back(2), BAD);
        Twin.unchanged("back: STATE", Stands::bare, x -> x.back(1), STATE);
        Twin.unchanged("force: BAD ahead of NONE", Stands::bare, x -> x.force(2), BAD);
        Twin.unchanged("force: NONE", Stands::bare, x -> x.force(1), NONE);
        Twin.unchanged("away: BAD ahead of NONE", Stands::bare, x -> x.away(-1), BAD);
        Twin.unchanged("away: NONE", Stands::bare, x -> x.away(0), NONE);
        Twin.unchanged("sheet: BAD ahead of SIZE", Stands::some, x -> x.sheet(4, 0, -1), BAD);
        Twin.unchanged("sheet: BAD ahead of SIZE", Stands::some, x -> x.sheet(0, 3, -1), BAD);
        Twin.unchanged("sheet: SIZE", Stands::some, x -> x.sheet(3, 2, -1), -14);
    }

    private static void clocks() {
        Due.sentence("CLOCKS 0 on (5 at most), by order");
        BeamClocks x = new BeamClocks();
        for (int c = 0; c < 5; c++) {
            be("clock " + c + " is not there yet", x.clock(c, 0), BAD);
            be("hang", x.hang(c % 4, 2 + c), c + 1);
            be("clock " + c, x.clock(c, 1), 2 + c);
        }
        be("the sixth", x.hang(0, 2), FULL);
        be("clock 5", x.clock(5, 1), BAD);
        Due.sentence("HAND (0 to PERIOD less 1), BEATEN 0 at first");
        x = Due.told("plain 2 0;plain 2 1;shy 30 0;shy 30 29;");
        hands("by text", x, 0, 1, 0, 29);
        be("beaten", x.rule(3), 0);
        Due.sentence("PUSH (0 to 5; 1 at first). TICK (0 at first)");
        be("push", new BeamClocks().rule(1), 1);
        be("tick", new BeamClocks().rule(2), 0);
        be("push by a text that has none", x.rule(1), 1);
        be("push by a text", Due.told("push 0;").rule(1), 0);
        be("push by a text", Due.told("push 5;").rule(1), 5);
    }

    /** knock(0, many) of a clock of this kind, of period 30, by a push: from 15 on, and from 14 back. */
    private static void shoves(int kind, int push, int many, int on, int back) {
        BeamClocks x = new BeamClocks();
        x.hang(kind, 30);
        x.push(push);
        String of = "kind " + kind + ", push " + push + ", many " + many;
        x.alter(0, 2, 15);
        be(of + " from 15", x.knock(0, many), on);
        x.alter(0, 2, 14);
        be(of + " from 14", x.knock(0, many), back);
    }

    private static void shove() {
        Due.sentence("SHOVE: plain MANY times PUSH");
        shoves(0, 0, 5, 15, 14);
        shoves(0, 1, 1, 16, 13);
        shoves(0, 2, 5, 25, 4);
        shoves(0, 5, 2, 25, 4);
        Due.sentence("SHOVE: soft half of a plain one (down)");
        shoves(1, 0, 5, 15, 14);
        shoves(1, 1, 1, 15, 14);
        shoves(1, 1, 2, 16, 13);
        shoves(1, 1, 3, 16, 13);
        shoves(1, 3, 3, 19, 10);
        shoves(1, 5, 5, 27, 2);
        Due.sentence("SHOVE: heavy as a plain one, as if one fewer BEAT");
        shoves(2, 5, 1, 15, 14);
        shoves(2, 5, 2, 20, 9);
        shoves(2, 0, 5, 15, 14);
        shoves(2, 3, 5, 27, 2);
        Due.sentence("SHOVE: shy as a soft one");
        shoves(3, 0, 5, 15, 14);
        shoves(3, 1, 1, 15, 14);
        shoves(3, 1, 2, 14, 13);
        shoves(3, 1, 3, 14, 13);
        shoves(3, 3, 3, 11, 10);
        shoves(3, 5, 5, 3, 2);
    }

    private static void goesOn() {
        Due.sentence("GOES ON: plain if twice its HAND is PERIOD or more; soft, heavy likewise; shy never");
        int[][] cases = {{2, 0, 0}, {2, 1, 1}, {3, 0, 0}, {3, 1, 0}, {3, 2, 1}, {4, 1, 0}, {4, 2, 1}, {5, 2, 0}, {5, 3, 1},
            {29, 14, 0}, {29, 15, 1}, {30, 14, 0}, {30, 15, 1}, {30, 16, 1}, {30, 0, 0}, {30, 29, 1}};
        for (int[] k : cases) {
            BeamClocks x = new BeamClocks();
            for (int kind = 0; kind < 4; kind++) {
                x.hang(kind, k[0]);
                x.alter(kind, 2, k[1]);
                be("kind " + kind + ", period " + k[0] + ", hand " + k[1], x.clock(kind, 4), kind == 3 ? 0 : k[2]);
            }
        }
    }

    private static void tape() {
        Due.sentence("THE TAPE has 160 bytes, places from 0");
        BeamClocks x = Stands.fullTape();
        be("bytes", x.count(2), 160);
        be("a text of 160 bytes", x.text(), 2);
        be("its last line", x.clock(1, 1), 5);
        be("none are left", x.count(2), 0);
        x = Stands.fullTape();
        x.end(159);
        be("a text of 159 bytes, without its last", x.text(), -10 - 159);
        x = new BeamClocks();
        Due.feed(x, " ".repeat(159) + "!");
        be("a fault at place 159", x.text(), -10 - 159);
        be("its fault", x.fault(), 1);
        be("a fault at place 0", Due.text(x, "!"), -10);
        x = new BeamClocks();
        Due.feed(x, "shy 5 1;" + " ".repeat(152) + "!");
        be("the 161st is not on it", x.text(), 1);
    }

    private static void takes(String text, int lines, int... hands) {
        BeamClocks x = new BeamClocks();
        be("\"" + text + "\"", Due.text(x, text), lines);
        be("fault of \"" + text + "\"", x.fault(), 0);
        hands("\"" + text + "\"", x, hands);
    }

    private static void faulty(String text, int fault, int place) {
        BeamClocks x = Due.told("plain 9 5;push 4;");
        be("\"" + text + "\"", Due.text(x, text), -10 - place);
        be("fault of \"" + text + "\"", x.fault(), fault);
        be("tape behind \"" + text + "\"", x.count(2), 0);
        hands("that which was told stays", x, 5);
        be("its push stays", x.rule(1), 4);
    }

    private static void tokens() {
        Due.sentence("TOKENS, each as long as may be, blanks (32) between");
        takes("", 0);
        takes(" ", 0);
        takes("plain9 5;", 1, 5);
        takes("plain 9 5;", 1, 5);
        takes("   plain   9   5   ;   ", 1, 5);
        takes("plain9 5;soft9 6;", 2, 5, 6);
        takes("push3;", 1);
        faulty("plai n 9 5;", 2, 0);
        faulty("plainsoft 9 5;", 2, 0);
        faulty("plain 95;", 3, 6);
        faulty("plain 15;", 2, 8);
        Due.sentence("NUMBERS (1 or 2 figures)");
        takes("plain 2 1;", 1, 1);
        takes("plain 02 01;", 1, 1);
        takes("plain 30 00;push 05;", 2, 0);
        takes("plain 19 09;", 1, 9);
        Due.sentence("text: { line }");
        takes("push 3;plain 2 0;soft 3 1;heavy 4 2;shy 5 3;plain 6 4;", 6, 0, 1, 2, 3, 4);
        takes("plain 2 0;soft 3 1;heavy 4 2;shy 5 3;plain 6 4;push 3;", 6, 0, 1, 2, 3, 4);
        for (int kind = 0; kind < 4; kind++) {
            String name = new String[] {"plain", "soft", "heavy", "shy"}[kind];
            be("kind of " + name, Due.told(name + " 9 5;").clock(0, 0), kind);
        }
    }

    private static void noToken() {
        Due.sentence("FAULT 1: no TOKEN");
        for (int c = 0; c < 128; c++) {
            boolean begins = c >= 'a' && c <= 'z' || c >= '0' && c <= '9' || c == ';' || c == ' ';
            if (!begins) {
                faulty(String.valueOf((char) c), 1, 0);
            }
        }
        faulty("shy\t9 5;", 1, 3);
        faulty("shy 9\n5;", 1, 5);
        faulty("shy 9,5;", 1, 5);
        faulty("shy 9 -5;", 1, 6);
        faulty("shy 9 5:", 1, 7);
        faulty("shy 9 5<", 1, 7);
        faulty("shy 9 5;\u0000", 1, 8);
        faulty("shy 9 5;\u007f", 1, 8);
        faulty("shy 9 5;!shy", 1, 8);
        faulty("push 5.", 1, 6);
        faulty("pusH 5;", 2, 0);
        faulty("push H;", 1, 5);
        Due.sentence("FAULT 1 is none: the first and the last sign of each sort");
        faulty("a", 2, 0);
        faulty("z", 2, 0);
        faulty("az", 2, 0);
        faulty("0", 2, 0);
        faulty("9", 2, 0);
        faulty(";", 2, 0);
    }

    private static void tooLong() {
        Due.sentence("FAULT 1: a NUMBER that is too long (its first byte)");
        faulty("000", 1, 0);
        faulty("shy 100 5;", 1, 4);
        faulty("shy 009 5;", 1, 4);
        faulty("shy 9 005;", 1, 6);
        faulty("shy   9   005;", 1, 10);
        faulty("push 005;", 1, 5);
        faulty("push 5 123;", 1, 7);
        faulty("shy 9 5;  123", 1, 10);
        faulty("shy 9 5" + "0".repeat(153), 1, 6);
    }

    private static void cannotStand() {
        Due.sentence("FAULT 2: a TOKEN that can not stand there (a NAME that begins no line)");
        for (String name : "plai plainn lain sof softt oft heav heavyy eavy sh shyy hy pus pushh ush p s h x thy bush".split(" ")) {
            faulty(name + " 9 5;", 2, 0);
            faulty("  " + name, 2, 2);
        }
        Due.sentence("NAMES (a .. z), as long as may be: each letter makes it another");
        for (char letter = 'a'; letter <= 'z'; letter++) {
            for (String name : "plain soft heavy shy push".split(" ")) {
                faulty(" " + name + letter + " 5 4;", 2, 1);
                faulty(" " + letter + name + " 5 4;", 2, 1);
                for (int i = 0; i < name.length(); i++) {
                    boolean same = name.charAt(i) == letter;
                    String other = name.substring(0, i) + letter + name.substring(i + 1);
                    BeamClocks x = new BeamClocks();
                    be("\"" + other + "\"", Due.text(x, other + (name.equals("push") ? " 5;" : " 5 4;")), same ? 1 : -10);
                    be("fault of \"" + other + "\"", x.fault(), same ? 0 : 2);
                }
            }
        }
        Due.sentence("FAULT 2: a TOKEN that can not stand there");
        faulty("9 plain 5;", 2, 0);
        faulty("; plain 9 5;", 2, 0);
        faulty("plain plain 9 5;", 2, 6);
        faulty("plain ; 9 5;", 2, 6);
        faulty("plain 9 plain;", 2, 8);
        faulty("plain 9;", 2, 7);
        faulty("plain 9 5 5;", 2, 10);
        faulty("plain 9 5 plain 9 5;", 2, 10);
        faulty("plain 9 5;;", 2, 10);
        faulty("plain 9 5;5;", 2, 10);
        faulty("push push;", 2, 5);
        faulty("push ;", 2, 5);
        faulty("push 5 5;", 2, 7);
        faulty("push 5 push 5;", 2, 7);
    }

    private static void theEnd() {
        Due.sentence("FAULT 2: or the end: the length");
        faulty("plain", 2, 5);
        faulty("plain   ", 2, 8);
        faulty("plain 9", 2, 7);
        faulty("plain 9 ", 2, 8);
        faulty("plain 9 5", 2, 9);
        faulty("plain 9 5 ", 2, 10);
        faulty("push", 2, 4);
        faulty("push ", 2, 5);
        faulty("push 5", 2, 6);
        faulty("push 5  ", 2, 8);
        faulty("plain 9 5;" + " ".repeat(144) + "push 5", 2, 160);
        faulty("push" + " ".repeat(156), 2, 160);
    }

    private static void outOfBounds() {
        Due.sentence("FAULT 3: a NUMBER out of its bounds");
        takes("soft 2 0;", 1, 0);
        takes("soft 30 0;", 1, 0);
        faulty("soft 1 0;", 3, 5);
        faulty("soft 0 0;", 3, 5);
        faulty("soft 00 0;", 3, 5);
        faulty("soft 31 0;", 3, 5);
        faulty("soft 99 0;", 3, 5);
        takes("push 0;", 1);
        takes("push 5;", 1);
        faulty("push 6;", 3, 5);
        faulty("push 10;", 3, 5);
        faulty("push 99;", 3, 5);
        Due.sentence("FAULT 3: a HAND: PERIOD or more");
        takes("soft 2 1;", 1, 1);
        faulty("soft 2 2;", 3, 7);
        takes("soft 17 16;", 1, 16);
        faulty("soft 17 17;", 3, 8);
        faulty("soft 17 18;", 3, 8);
        takes("soft 30 29;", 1, 29);
        faulty("soft 30 30;", 3, 8);
        faulty("soft 30 99;", 3, 8);
    }

    private static void secondPush() {
        Due.sentence("FAULT 4: push for the second time (its NAME)");
        faulty("push 1;push 1;", 4, 7);
        faulty("push 1;  push 2;", 4, 9);
        faulty("push 0;shy 9 5;push 0;", 4, 15);
        faulty("push 1;push", 4, 7);
        faulty("push 1;pushh 1;", 2, 7);
    }

    private static final String FIVE = "shy 2 0;shy 2 0;shy 2 0;shy 2 0;shy 2 0;";

    private static void sixthClock() {
        Due.sentence("FAULT 5: the 6th CLOCK (its NAME)");
        takes(FIVE, 5, 0, 0, 0, 0, 0);
        for (String name : "plain soft heavy shy".split(" ")) {
            faulty(FIVE + name + " 2 0;", 5, 40);
            faulty(FIVE + "push 2; " + name, 5, 48);
        }
        faulty(FIVE + "  shyy 2 0;", 2, 42);
        faulty(FIVE + "push 2;push 2;", 4, 47);
    }

    private static void firstMet() {
        Due.sentence("FAULTS, the first met as it is read (a TOKEN is read when the one before has been taken)");
        faulty("bell !", 2, 0);
        faulty("bell 123", 2, 0);
        faulty("plain 31 !", 3, 6);
        faulty("plain 31 123;", 3, 6);
        faulty("plain 31", 3, 6);
        faulty("plain 9 9!", 3, 8);
        faulty("plain 9 9", 3, 8);
        faulty("push 6 123", 3, 5);
        faulty("push 1;push 999;", 4, 7);
        faulty("push 1;push!", 4, 7);
        faulty(FIVE + "plain 999", 5, 40);
        faulty(FIVE + "plain!", 5, 40);
        faulty("plain 9 5!;", 1, 9);
        faulty("plain 9 5;!bell", 1, 10);
        faulty("plain 9 5;bell!", 2, 10);
    }

    private static void textThatIsTaken() {
        Due.sentence("A text that is taken tells all, in place of what there was");
        BeamClocks x = Stands.full();
        be("text", Due.text(x, "soft 9 8;push 3;"), 2);
        hands("text", x, 8);
        be("kind", x.clock(0, 0), 1);
        be("period", x.clock(0, 1), 9);
        be("push", x.rule(1), 3);
        be("tick", x.rule(2), 0);
        be("beaten", x.rule(3), 0);
        x = Stands.full();
        be("an empty text", x.text(), 0);
        be("clocks", x.rule(0), 0);
        be("push", x.rule(1), 1);
        be("tick", x.rule(2), 0);
        Due.sentence("nothing is SEEN; IMAGES are gone");
        be("seen", x.count(0), 0);
        be("images", x.count(1), 0);
        be("back(0)", x.back(0), STATE);
        be("back(1)", x.back(1), STATE);
        be("keep(0)", x.keep(0), 0);
        Due.sentence("what is refused changes nothing (but THE TAPE, as told)");
        // The latest text of these had fault 3 already, so that fault() too is alike.
        BeamClocks one = Stands.some();
        one.end(0);
        be("a text with a fault", Due.text(one, "soft 9 8;push 6;"), -10 - 14);
        BeamClocks other = Stands.some();
        other.end(0);
        Twin.same("the beam, SEEN, IMAGES, SHEETS stay", one, other);
        be("of three clocks none came", Due.text(new BeamClocks(), "soft 9 8;soft 9 8;soft 9 9;"), -10 - 25);
    }

    private static void tick() {
        Due.sentence("HAND of each CLOCK is 1 more; where it is PERIOD then, it becomes 0 and the CLOCK BEATS");
        BeamClocks x = Due.told("plain 2 0;soft 30 28;push 0;");
        be("none comes to its period", x.ticks(1), 0);
        hands("one tick", x, 1, 29);
        be("both come to it", x.ticks(1), 2);
        hands("two ticks", x, 0, 0);
        be("beaten", x.clock(0, 3), 1);
        be("beaten", x.clock(1, 3), 1);
        Due.sentence("If any BEATS, each CLOCK that does not is PUSHED");
        x = Due.told("plain 9 5;plain 30 20;push 5;");
        be("none beats: none is pushed", x.ticks(3), 0);
        hands("none beats", x, 8, 23);
        be("one beats", x.ticks(1), 1);
        hands("one beats, by itself at 0", x, 0, 29);
        x = Due.told("plain 9 8;plain 2 1;plain 30 29;push 5;");
        be("all beat: none is pushed", x.ticks(1), 3);
        hands("all beat", x, 0, 0, 0);
        Due.sentence("MANY being how many BEAT");
        x = Due.told("shy 2 1;shy 3 2;shy 4 3;shy 5 4;plain 30 4;push 1;");
        be("four beat", x.ticks(1), 4);
        hands("four beat: plain", x, 0, 0, 0, 0, 1);
        x = Due.told("shy 2 1;shy 3 2;shy 4 3;shy 5 4;heavy 30 24;push 1;");
        x.ticks(1);
        hands("four beat: heavy", x, 0, 0, 0, 0, 28);
        x = Due.told("shy 2 1;shy 3 2;shy 4 3;soft 30 24;shy 30 24;push 3;");
        x.ticks(1);
        hands("three beat: soft, shy", x, 0, 0, 0, 29, 21);
        Due.sentence("TICK is 1 more");
        be("tick", x.rule(2), 1);
        x = new BeamClocks();
        x.ticks(1);
        be("tick of no clocks", x.rule(2), 1);
    }

    /** A clock of period 2 that beats in this tick, and a plain one of period 20, pushed by it. */
    private static void pushedTo(int from, int push, int to) {
        BeamClocks x = new BeamClocks();
        x.hang(0, 2);
        x.hang(0, 20);
        x.alter(0, 2, 1);
        x.alter(1, 2, from);
        x.push(push);
        be("one beats", x.ticks(1), 1);
        be("from " + from + " by " + push, x.clock(1, 2), to);
        be("it has not beaten", x.clock(1, 3), 0);
    }

    private static void pushedAtTheBounds() {
        Due.sentence("HAND is more by its SHOVE (PERIOD less 1 at most)");
        pushedTo(13, 4, 18);
        pushedTo(13, 5, 19);
        pushedTo(14, 5, 19);
        pushedTo(17, 5, 19);
        pushedTo(18, 0, 19);
        pushedTo(18, 5, 19);
        Due.sentence("if it GOES ON (as its HAND is then)");
        pushedTo(8, 3, 6);
        pushedTo(9, 3, 13);
        Due.sentence("else less by it (0 at least)");
        pushedTo(5, 5, 1);
        pushedTo(4, 5, 0);
        pushedTo(3, 5, 0);
        pushedTo(0, 5, 0);
        pushedTo(0, 1, 0);
        pushedTo(0, 0, 1);
        Due.sentence("a CLOCK at PERIOD less 1 BEATS in the next TICK");
        BeamClocks x = Due.told("shy 2 1;plain 20 14;push 5;");
        x.ticks(1);
        be("who beats", x.rule(4), 2);
    }

    private static void together() {
        Due.sentence("All BEAT TOGETHER in a TICK in which each CLOCK BEATS (there must be one at least)");
        be("no clocks", new BeamClocks().together(), NONE);
        be("no clocks", new BeamClocks().runs(300, 3), 0);
        be("one clock", Due.told("plain 2 1;").together(), 0);
        be("one clock", Due.told("plain 2 1;").runs(300, 3), 150);
        be("five clocks", Due.told("plain 2 1;soft 3 2;heavy 4 3;shy 5 4;plain 6 5;").together(), 0);
        be("four of five", Due.told("heavy 2 1;heavy 2 1;heavy 2 1;heavy 2 1;heavy 2 0;push 0;").together(), NONE);
    }

    private static void byTicks() {
        Due.sentence("BY TICKS: TICK n is the one behind n more (0: this one)");
        BeamClocks x = Due.told("plain 5 3;");
        be("this tick", x.beats(0), 0);
        be("the next", x.beats(1), 1);
        x.ticks(1);
        be("it is this one now", x.beats(0), 1);
        be("behind five more", x.beats(5), 1);
    }

    private static void seen() {
        Due.sentence("SEEN (6): in TICK n (0 to 60) from now on");
        BeamClocks x = Due.told("plain 5 3;");
        int[] ticks = {1, 6, 0, 60, 59, 61};
        int[] due = {1 << 3, 1 << 3, 1 << 4, 1 << 4, 1, 0};
        for (int i = 0; i < 5; i++) {
            be("see", x.see(ticks[i], 0, 1), 1);
            be("it beats in tick " + ticks[i], x.hands(0), due[i]);
            x.forget(0);
        }
        be("see in tick 61", x.see(61, 0, 1), BAD);
        for (int n = 1; n <= 6; n++) {
            be("see", x.see(1, 0, 1), n);
        }
        be("the seventh", x.see(1, 0, 1), FULL);
        be("the seventh is not seen", x.count(0), 6);
        be("hands", x.hands(0), 1 << 3);
        x.ticks(1);
        be("from now on, a tick later", x.hands(0), 1 << 3);
    }

    private static void sheets() {
        Due.sentence("SHEETS 0 to 3, or nothing (at first)");
        for (int k = 0; k < 4; k++) {
            be("lay", new BeamClocks().lay(k, 0, 0), -11);
        }
        be("lay on sheet 4", new BeamClocks().lay(4, 0, 0), BAD);
        be("lay on sheet -1", new BeamClocks().lay(-1, 0, 0), BAD);
        Due.sentence("rows of BYTES (lane 0), SHORTS (1), INTS (2) with 0 to 40 CELLS");
        for (int lane = 0; lane < 3; lane++) {
            BeamClocks x = new BeamClocks();
            be("0 cells", x.sheet(3, lane, 0), 1);
            be("there is no cell 0", x.lay(3, 0, 0), -12);
            be("40 cells", x.sheet(3, lane, 40), 1);
            be("cell 39", x.lay(3, 39, 0), 1);
            be("there is no cell 40", x.lay(3, 40, 0), -12);
            be("41 cells", x.sheet(3, lane, 41), BAD);
            be("cell 39 is there still", x.lay(3, 39, 0), 1);
        }
        Due.sentence("FAULTS: 1 NULL, 2 INDEX, 3 CAST (another lane), 4 SIZE (below 0)");
        BeamClocks x = Stands.some();
        be("null", x.lay(3, 0, 0), -11);
        be("index", x.lay(0, 4, 0), -12);
        for (int lane = 0; lane < 3; lane++) {
            for (int as = 0; as < 3; as++) {
                be("read of sheet " + lane + " as of " + as, x.read(lane, as, 0, 1), lane == as ? 1 : 0);
                be("torn", x.torn(), lane == as ? 0 : 3);
            }
        }
        be("size", x.sheet(0, 0, -1), -14);
        be("size", x.sheet(0, 0, Integer.MIN_VALUE), -14);
    }
}
