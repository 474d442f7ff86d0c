import java.util.ArrayList;
import java.util.List;

/**
 * Two objects made alike, one of which is called once more: if that call changed nothing, all that can be asked and
 * all that can be done to them afterwards is answered alike by both.
 */
final class Twin {
    interface Make {
        BeamClocks make();
    }

    interface Call {
        long on(BeamClocks x);
    }

    private Twin() {
    }

    /** The call answers this, and leaves everything as it was. */
    static void unchanged(String call, Make make, Call c, long due) {
        BeamClocks called = make.make();
        Due.be(call, c.on(called), due);
        same(call + " changes nothing", called, make.make());
    }

    /** Whatever the call answers, it leaves everything as it was. */
    static void unchanged(String call, Make make, Call c) {
        BeamClocks called = make.make();
        c.on(called);
        same(call + " changes nothing", called, make.make());
    }

    /** All is alike in both; they are used up by it. */
    static void same(String what, BeamClocks one, BeamClocks other) {
        List<Long> answers = askAll(one);
        List<Long> due = askAll(other);
        for (int i = 0; i < due.size(); i++) {
            if (!answers.get(i).equals(due.get(i))) {
                Due.be(what + ", question " + i, answers.get(i), due.get(i));
                return;
            }
        }
        Due.hold(what, answers.size() == due.size());
    }

    /** Some 300 questions; what can not be asked without a change comes last: SEEN, IMAGES, SHEETS, THE TAPE. */
    private static List<Long> askAll(BeamClocks x) {
        List<Long> all = new ArrayList<>();
        askBeam(x, all);
        add(all, x.fault(), x.torn(), x.together(), x.again(), x.beats(7), x.runs(300, 4), x.drift(3, 9, 1));
        for (int what = 0; what < 6; what++) {
            add(all, x.count(what));
        }
        for (int c = 0; c < 5; c++) {
            add(all, x.kinds(c), x.periods(c));
        }
        for (int n = x.count(0); n >= 0; n--) {
            add(all, x.forget(n), x.hands(0), x.hands(1), x.hands(4));
        }
        for (int k = 0; k < 2; k++) {
            add(all, x.back(k));
            askBeam(x, all);
        }
        askSheets(x, all);
        add(all, x.count(2), x.text(), x.fault());
        askBeam(x, all);
        return all;
    }

    private static void add(List<Long> all, long... answers) {
        for (long a : answers) {
            all.add(a);
        }
    }

    private static void askBeam(BeamClocks x, List<Long> all) {
        for (int what = 0; what < 6; what++) {
            add(all, x.rule(what));
        }
        for (int c = 0; c < x.rule(0); c++) {
            add(all, x.clock(c, 0), x.clock(c, 1), x.clock(c, 2), x.clock(c, 3));
        }
    }

    /** What is in the CELLS shows on clocks whose hands may be anything. */
    private static void askSheets(BeamClocks x, List<Long> all) {
        x.cut(0);
        for (int c = 0; c < 5; c++) {
            x.hang(0, 30);
        }
        for (int k = 0; k < 4; k++) {
            for (int lane = 0; lane < 3; lane++) {
                add(all, x.read(k, lane, 0, 20), x.torn());
                for (int c = 0; c < 5; c++) {
                    add(all, x.clock(c, 2));
                }
            }
        }
    }
}
