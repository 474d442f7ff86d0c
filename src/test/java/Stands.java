/** Objects in which there is something of everything, as the tests of the bounds want them. */
final class Stands {
    private Stands() {
    }

    static BeamClocks bare() {
        return new BeamClocks();
    }

    /** Five clocks at 0 whose periods leave room for every hand. */
    static BeamClocks bareFive() {
        BeamClocks x = new BeamClocks();
        for (int c = 0; c < 5; c++) {
            x.hang(0, 30);
        }
        return x;
    }

    static BeamClocks allCut() {
        BeamClocks x = some();
        x.cut(0);
        return x;
    }

    /** Three clocks, two seen, an image, three sheets, a fault of a text and one of a read, eight bytes on the tape. */
    static BeamClocks some() {
        BeamClocks x = Due.told("plain 30 0;soft 9 8;heavy 10 0;push 2;");
        x.keep(0);
        x.ticks(7);
        x.see(3, 0, 0);
        x.see(60, 1, 1);
        cells(x, 0, 0, 0, 5, 1, 6);
        cells(x, 1, 1, 1, 7, 2, 3);
        cells(x, 2, 2, 2, 1, 0, 2);
        x.read(0, 0, 3, 1);
        Due.text(x, "push 9;");
        Due.feed(x, "shy 5 1;");
        return x;
    }

    /** All that there may be: five clocks, six seen, both images, four sheets. */
    static BeamClocks full() {
        BeamClocks x = Due.told("plain 30 0;soft 9 8;heavy 10 0;shy 2 1;plain 7 3;push 5;");
        x.keep(0);
        x.ticks(7);
        x.keep(1);
        x.ticks(4);
        for (int n = 0; n < 6; n++) {
            x.see(10 * n, n % 5, n % 2);
        }
        cells(x, 0, 0, 0, 5, 1, 6);
        cells(x, 1, 1, 1, 7, 2, 3);
        cells(x, 2, 2, 2, 1, 0, 2);
        x.sheet(3, 2, 40);
        x.read(0, 1, 0, 1);
        return x;
    }

    /** The tape has its 160 bytes, the last of which closes a line. */
    static BeamClocks fullTape() {
        BeamClocks x = Due.told("shy 9 4;");
        Due.feed(x, fullText());
        return x;
    }

    static String fullText() {
        return "plain 30 29;" + " ".repeat(140) + "shy 5 1;";
    }

    /** TICK is 9999, the last that there is. */
    static BeamClocks late() {
        BeamClocks x = Due.told("plain 30 0;soft 9 8;");
        for (int i = 0; i < 99; i++) {
            x.ticks(100);
        }
        x.ticks(99);
        return x;
    }

    static void cells(BeamClocks x, int k, int lane, int... cells) {
        x.sheet(k, lane, cells.length);
        for (int i = 0; i < cells.length; i++) {
            x.lay(k, i, cells[i]);
        }
    }
}
