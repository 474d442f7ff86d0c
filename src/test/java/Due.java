/** What the tests share: sentences of the document, answers that are due, and texts that are fed. */
final class Due {
    private static int held = 0;
    private static int wrong = 0;
    private static String sentence = "";
    private static int sentences = 0;
    private static int ahead = 0;

    private Due() {
    }

    /** The answers from here on are due by this sentence of the document, up to the next one. */
    static void sentence(String of) {
        endOfSentence();
        sentence = of;
        sentences++;
        ahead = held + wrong;
    }

    private static void endOfSentence() {
        if (sentences != 0 && held + wrong == ahead) {
            wrong++;
            System.out.println("nothing is tested of: " + sentence);
        }
    }

    static void be(String call, long got, long want) {
        if (got == want) {
            held++;
            return;
        }
        wrong++;
        System.out.println((sentence.isEmpty() ? "" : "[" + sentence + "] ") + call + " answered " + got + ", due is " + want);
    }

    static void hold(String what, boolean holds) {
        be(what, holds ? 1 : 0, 1);
    }

    static void feed(BeamClocks x, String text) {
        for (int i = 0; i < text.length(); i++) {
            x.feed(text.charAt(i));
        }
    }

    static int text(BeamClocks x, String text) {
        feed(x, text);
        return x.text();
    }

    /** A new object that has been told this text, which must be taken. */
    static BeamClocks told(String text) {
        BeamClocks x = new BeamClocks();
        int lines = text(x, text);
        hold("the text \"" + text + "\" is taken", lines >= 0 && x.fault() == 0);
        return x;
    }

    static void close(String name) {
        endOfSentence();
        String of = sentences == 0 ? "" : " of " + sentences + " sentences";
        System.out.println(name + ": " + held + " answers" + of + " as due, " + wrong + " not");
        if (wrong != 0 || held == 0) {
            System.exit(1);
        }
    }
}
