/** What the tests share: answers that are due, and texts that are fed. */
final class Due {
    private static int held = 0;
    private static int wrong = 0;

    private Due() {
    }

    static void be(String call, long got, long want) {
        if (got == want) {
            held++;
            return;
        }
        wrong++;
        System.out.println(call + " answered " + got + ", due is " + want);
    }

    static void hold(String what, boolean holds) {
        be(what, holds ? 1 : 0, 1);
    }

    static void feed(BeamClocks x, String text) {
        for (int i = 0; i < text.length(); i++) {
            x.feed(text.charAt(i));
        }
    }

    static int text(BeamClocks x, String text) {
        feed(x, text);
        return x.text();
    }

    /** A new object that has been told this text, which must be taken. */
    static BeamClocks told(String text) {
        BeamClocks x = new BeamClocks();
        int lines = text(x, text);
        hold("the text \"" + text + "\" is taken", lines >= 0 && x.fault() == 0);
        return x;
    }

    static void close(String name) {
        System.out.println(name + ": " + held + " answers as due, " + wrong + " not");
        if (wrong != 0 || held == 0) {
            System.exit(1);
        }
    }
}
