/** Promises 33 to 35: copying and pasting. */
public final class CopyTest {
    private CopyTest() {
    }

    public static void main(String[] args) {
        places();
        rowsThatGoOn();
        scrolledAway();
        secondScreen();
        tooMuch();
        wrongPlaces();
        pasting();
        Due.end();
    }

    private static void is(String what, Panehouse h, int many, String text) {
        Due.is(what, Bytes.copied(h, many), text);
        Due.is(what, many, text.length());
        Due.noSuchElement(what, () -> h.copied(many));
        Due.noSuchElement(what, () -> h.copied(-1));
    }

    private static void places() {
        Panehouse h = Bytes.house(6, 4);
        Bytes.feed(h, 0, "ab c\r\n d\r\n\r\nef");
        is("one cell", h, h.copy(0, 0, 1, 0, 1), "b");
        is("in a row, blanks at its end stay", h, h.copy(0, 0, 2, 0, 5), ".c..");
        is("rows", h, h.copy(0, 0, 3, 1, 3), "c/.d..");
        is("blanks are left out", h, h.copy(0, 0, 0, 3, 5), "ab.c/.d//ef....");
        is("from behind the text", h, h.copy(0, 0, 5, 1, 0), "/.");
        Bytes.feed(h, 0, "~[1;5H~[7m ");
        is("a blank is one by its sign", h, h.copy(0, 0, 0, 1, 1), "ab.c/.d");
    }

    private static void rowsThatGoOn() {
        Panehouse h = Bytes.house(4, 3);
        Bytes.feed(h, 0, "ab  cd  ef");
        is("no 10 behind rows that go on", h, h.copy(0, 0, 0, 2, 1), "ab..cd..ef");
        is("from one that goes on", h, h.copy(0, 1, 1, 2, 3), "d..ef..");
        Bytes.feed(h, 0, "~[1;4H~[X");
        is("it does not go on any more", h, h.copy(0, 0, 0, 2, 1), "ab/cd..ef");
    }

    private static void scrolledAway() {
        Panehouse h = Bytes.house(4, 2);
        Bytes.feed(h, 0, "a\r\nb\r\ncdefgh");
        Due.is("kept", h.state(0, 'p'), 2);
        is("from what scrolled away", h, h.copy(0, -2, 0, 1, 1), "a/b/cdefgh");
        is("of what scrolled away", h, h.copy(0, -2, 0, -1, 2), "a/b..");
        Due.outOfBounds("no such row", () -> h.copy(0, -3, 0, 0, 0));
    }

    private static void secondScreen() {
        Panehouse h = Bytes.house(4, 2);
        Bytes.feed(h, 0, "a\r\nb\r\nc~[?47habcdef");
        is("rows of it do not go on", h, h.copy(0, 0, 0, 1, 1), "abcd/ef");
        Due.outOfBounds("nothing scrolled away", () -> h.copy(0, -1, 0, 0, 0));
    }

    private static void tooMuch() {
        Panehouse h = Bytes.house(40, 11);
        for (int i = 0; i < 40; i++) {
            Bytes.feed(h, 0, "0123456789");
        }
        is("400", h, h.copy(0, 0, 0, 9, 39), "0123456789".repeat(40));
        Bytes.feed(h, 0, "x");
        Due.is("a part", h.copy(0, 0, 0, 0, 9), 10);
        Due.illegalState("401", () -> h.copy(0, 0, 0, 10, 0));
        is("as before", h, 10, "0123456789");
        Due.is("400", h.copy(0, 0, 1, 10, 0), 400);
        Due.is("the last one", h.copied(399), 'x');
        Bytes.feed(h, 0, "~[11;1H~[K~[10;40Hx");
        Due.illegalState("400 and a 10, and a blank", () -> h.copy(0, 0, 0, 10, 0));
        Due.illegalState("400 and a 10", () -> h.copy(0, 0, 1, 10, 0));
        Due.is("399 and a 10", h.copy(0, 0, 2, 10, 0), 400);
    }

    private static void wrongPlaces() {
        Panehouse h = Bytes.house(6, 4);
        Bytes.feed(h, 0, "abc");
        h.copy(0, 0, 0, 0, 2);
        int[][] wrong = {{1, 0, 0, 0, 0}, {-1, 0, 0, 0, 0}, {0, 4, 0, 0, 0}, {0, -1, 0, 0, 0}, {0, 0, 6, 0, 0},
            {0, 0, -1, 0, 0}, {0, 0, 0, 4, 0}, {0, 0, 0, -1, 0}, {0, 0, 0, 1, 6}, {0, 0, 0, 1, -1},
            {0, 3, 3, Integer.MIN_VALUE, 0}, {0, 0, 0, Integer.MAX_VALUE, 0}};
        for (int[] w : wrong) {
            Due.outOfBounds("copy", () -> h.copy(w[0], w[1], w[2], w[3], w[4]));
        }
        Due.illegalArgument("ahead", () -> h.copy(0, 1, 0, 0, 5));
        Due.illegalArgument("ahead", () -> h.copy(0, 1, 3, 1, 2));
        is("as before", h, 3, "abc");
    }

    private static void pasting() {
        Panehouse h = Bytes.house(6, 4);
        Due.is("nothing is copied", h.paste(0), 0);
        Bytes.feed(h, 0, "ab\r\ncd");
        h.copy(0, 0, 0, 1, 2);
        h.split(0, true, 5);
        Due.is("paste", h.paste(0), 6);
        StringBuilder text = new StringBuilder();
        for (int i = 0; i < 6; i++) {
            text.append(h.typed(0)).append(' ');
        }
        Due.is("13 for 10", text.toString(), "97 98 13 99 100 32 ");
        for (int i = 0; i < 33; i++) {
            h.paste(0);
        }
        Due.is("typed", h.state(0, 'y'), 198);
        Due.is("room", h.paste(0), 2);
        Due.is("no room", h.paste(0), 0);
        Due.is("another pane", h.paste(1), 6);
        Due.outOfBounds("no pane", () -> h.paste(2));
        Due.outOfBounds("no pane", () -> h.paste(-1));
    }
}
