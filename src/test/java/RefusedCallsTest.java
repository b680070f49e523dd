import java.util.concurrent.Callable;

/**
 * Each exception of each promise; that the one that is documented first is thrown, if several apply; and that a call
 * that throws changes nothing, nor does one that only asks.
 */
public final class RefusedCallsTest {
    private static final int[] NO_WINDOWS = {-1, 2, 3, 4, Integer.MIN_VALUE, Integer.MAX_VALUE};
    private static final int[] NO_PANES = {-1, 1, 7, 8, Integer.MIN_VALUE, Integer.MAX_VALUE};
    private static final int[] NO_CLIENTS = {-1, 1, 3, 4, Integer.MIN_VALUE, Integer.MAX_VALUE};
    private static final int[] NO_BYTES = {-1, 256, Integer.MIN_VALUE, Integer.MAX_VALUE};
    private static final int[] NO_SHARES = {0, 10, -1, Integer.MIN_VALUE, Integer.MAX_VALUE};

    private final Panehouse h = new Panehouse();
    private final String before;

    /** Windows 0 and 1, with panes 0, 2, 3 and 4, a client 0 and a client 2, and something of everything. */
    private RefusedCallsTest() {
        h.window();
        h.window();
        h.split(0, true, 4);
        h.split(1, false, 6);
        h.split(2, false, 5);
        h.close(1);
        h.attach(24, 11);
        h.attach(30, 12);
        h.attach(20, 9);
        h.detach(1);
        h.look(2, 1);
        h.zoom(0);
        Bytes.feed(h, 0, "one\r\ntwo~[31mabcdefghijklmnopqrstuvwxyz\u0007~[5n~[2;3r~7");
        Bytes.feed(h, 2, "\n\n\n\n\n\n\n\n\nthree~[?47hfour~[?6h~[4h~[?25l");
        h.copy(0, 0, 0, 1, 1);
        h.paste(3);
        h.redraw(0);
        h.redraw(2);
        Bytes.feed(h, 0, "later~[1;3");
        h.key(0, 2);
        before = All.of(h);
    }

    public static void main(String[] args) {
        RefusedCallsTest test = new RefusedCallsTest();
        test.windows();
        test.panes();
        test.shares();
        test.bytes();
        test.manyBytes();
        test.cells();
        test.letters();
        test.clients();
        test.clientSizes();
        test.shown();
        test.keys();
        test.copying();
        test.asking();
        test.whatCannotBeAsked();
        fullHouse();
        emptyHouse();
        Due.end();
    }

    private void refused(String what, Class<?> exception, Callable<?> call) {
        Due.throwing(what, exception, call);
        Due.is(what + " changes nothing", All.of(h), before);
    }

    private void outOfBounds(String what, Callable<?> call) {
        refused(what, IndexOutOfBoundsException.class, call);
    }

    private void illegal(String what, Callable<?> call) {
        refused(what, IllegalArgumentException.class, call);
    }

    private void none(String what, Callable<?> call) {
        refused(what, java.util.NoSuchElementException.class, call);
    }

    private void windows() {
        for (int no : NO_WINDOWS) {
            outOfBounds("size " + no, () -> h.size(no, true));
            outOfBounds("size " + no, () -> h.size(no, false));
            outOfBounds("panes " + no, () -> h.panes(no));
            outOfBounds("paneAt " + no, () -> h.paneAt(no, 0));
            outOfBounds("paneAt, no such window, and not so many, " + no, () -> h.paneAt(no, -1));
            outOfBounds("active " + no, () -> h.active(no));
            outOfBounds("zoom " + no, () -> h.zoom(no));
            outOfBounds("look " + no, () -> h.look(0, no));
        }
        for (int index : new int[] {-1, 3, 8, Integer.MIN_VALUE, Integer.MAX_VALUE}) {
            none("paneAt, not so many, " + index, () -> h.paneAt(0, index));
        }
    }

    private void panes() {
        for (int no : NO_PANES) {
            outOfBounds("choose " + no, () -> h.choose(no));
            outOfBounds("split " + no, () -> h.split(no, true, 5));
            outOfBounds("share " + no, () -> h.share(no, 5));
            outOfBounds("close " + no, () -> h.close(no));
            outOfBounds("swap " + no, () -> h.swap(no, 0));
            outOfBounds("swap " + no, () -> h.swap(0, no));
            outOfBounds("swap, no such pane, and both the same, " + no, () -> h.swap(no, no));
            outOfBounds("place " + no, () -> h.place(no, 'r'));
            outOfBounds("place, no such pane, nor letter, " + no, () -> h.place(no, 'x'));
            outOfBounds("answer " + no, () -> h.answer(no));
            outOfBounds("typed " + no, () -> h.typed(no));
            outOfBounds("paste " + no, () -> h.paste(no));
            outOfBounds("plainShare " + no, () -> h.plainShare(no));
            outOfBounds("checksum " + no, () -> h.checksum(no));
        }
        for (int pane : new int[] {0, 2, 3, 4}) {
            illegal("swap, both the same, " + pane, () -> h.swap(pane, pane));
        }
    }

    private void shares() {
        for (int no : NO_SHARES) {
            illegal("split " + no, () -> h.split(0, true, no));
            illegal("share " + no, () -> h.share(0, no));
            outOfBounds("split, no such pane, and out of range, " + no, () -> h.split(1, true, no));
            outOfBounds("share, no such pane, and out of range, " + no, () -> h.share(1, no));
        }
    }

    private void bytes() {
        for (int no : NO_BYTES) {
            illegal("feed " + no, () -> h.feed(0, no));
            outOfBounds("feed, no such pane, and out of range, " + no, () -> h.feed(1, no));
        }
        for (int no : NO_PANES) {
            outOfBounds("feed " + no, () -> h.feed(no, 'x'));
            outOfBounds("feedMore " + no, () -> h.feedMore(no, 1, 'x', 0, 0, 0, 0, 0, 0, 0));
            outOfBounds("feedMore, and out of range " + no, () -> h.feedMore(no, 0, -1, 0, 0, 0, 0, 0, 0, 0));
        }
    }

    private void manyBytes() {
        for (int many : new int[] {0, 9, -1, Integer.MIN_VALUE, Integer.MAX_VALUE}) {
            illegal("feedMore of " + many, () -> h.feedMore(0, many, 'x', 'x', 'x', 'x', 'x', 'x', 'x', 'x'));
        }
        for (int no : NO_BYTES) {
            for (int at = 0; at < 8; at++) {
                int[] g = {'x', 'x', 'x', 'x', 'x', 'x', 'x', 'x'};
                g[at] = no;
                for (int many = at + 1; many <= 8; many++) {
                    int given = many;
                    illegal("feedMore, of " + many + ", byte " + at + ", " + no,
                            () -> h.feedMore(0, given, g[0], g[1], g[2], g[3], g[4], g[5], g[6], g[7]));
                }
                if (at > 0) {
                    Panehouse other = Bytes.house(20, 2);
                    Due.is("those that are not given are not looked at",
                            other.feedMore(0, at, g[0], g[1], g[2], g[3], g[4], g[5], g[6], g[7]), 0);
                    Due.is("just those that are given", Bytes.cursor(other, 0), "0," + at);
                }
            }
        }
    }

    private void cells() {
        int high = h.place(0, 'h');
        int wide = h.place(0, 'w');
        int kept = h.state(0, 'p');
        int[][] wrong = {{0, high, 0}, {0, -kept - 1, 0}, {0, 0, wide}, {0, 0, -1}, {0, -kept, wide}, {1, 0, 0},
            {8, 0, 0}, {-1, 0, 0}, {0, Integer.MAX_VALUE, 0}, {0, Integer.MIN_VALUE, 0}, {0, 0, Integer.MAX_VALUE},
            {0, 0, Integer.MIN_VALUE}, {2, -1, 0}};
        for (int[] w : wrong) {
            String what = " " + w[0] + " " + w[1] + " " + w[2];
            outOfBounds("cell" + what, () -> h.cell(w[0], w[1], w[2]));
            outOfBounds("mark" + what, () -> h.mark(w[0], w[1], w[2]));
            if (w[2] == 0) {
                outOfBounds("goesOn" + what, () -> h.goesOn(w[0], w[1]));
            }
            outOfBounds("copy from" + what, () -> h.copy(w[0], w[1], w[2], 0, 0));
            outOfBounds("copy to" + what, () -> h.copy(w[0], 0, 0, w[1], w[2]));
        }
    }

    private void letters() {
        for (int letter = 0; letter < 300; letter += letter < 128 ? 1 : 40) {
            char what = (char) letter;
            if ("rcwmtbaiovskpy".indexOf(what) < 0) {
                illegal("state " + letter, () -> h.state(0, what));
                outOfBounds("state, no such pane, nor letter " + letter, () -> h.state(1, what));
            }
            if ("rchw".indexOf(what) < 0) {
                illegal("place " + letter, () -> h.place(0, what));
            }
        }
        illegal("state 65535", () -> h.state(0, (char) 65535));
        illegal("place 65535", () -> h.place(0, (char) 65535));
    }

    private void clients() {
        for (int no : NO_CLIENTS) {
            outOfBounds("detach " + no, () -> h.detach(no));
            outOfBounds("resize " + no, () -> h.resize(no, 10, 5));
            outOfBounds("look " + no, () -> h.look(no, 0));
            outOfBounds("look, neither is there, " + no, () -> h.look(no, 2));
            outOfBounds("looksAt " + no, () -> h.looksAt(no));
            outOfBounds("redraw " + no, () -> h.redraw(no));
            outOfBounds("shown " + no, () -> h.shown(no, 0, 0));
            outOfBounds("shownMark " + no, () -> h.shownMark(no, 0, 0));
            outOfBounds("shownCursor " + no, () -> h.shownCursor(no, true));
            outOfBounds("shownSum " + no, () -> h.shownSum(no));
            outOfBounds("key " + no, () -> h.key(no, 'x'));
            outOfBounds("key, and out of range " + no, () -> h.key(no, -1));
        }
    }

    private void clientSizes() {
        int[][] wrong = {{3, 5}, {61, 5}, {10, 1}, {10, 25}, {3, 25}, {-10, 5}, {10, -5}, {Integer.MIN_VALUE, 5},
            {10, Integer.MAX_VALUE}};
        for (int[] w : wrong) {
            illegal("attach " + w[0] + " " + w[1], () -> h.attach(w[0], w[1]));
            illegal("resize " + w[0] + " " + w[1], () -> h.resize(0, w[0], w[1]));
            outOfBounds("resize, no such client, " + w[0] + " " + w[1], () -> h.resize(1, w[0], w[1]));
        }
    }

    private void shown() {
        int[][] wrong = {{0, 11, 0}, {0, -1, 0}, {0, 0, 24}, {0, 0, -1}, {2, 9, 0}, {2, 0, 20},
            {0, Integer.MAX_VALUE, 0}, {0, 0, Integer.MIN_VALUE}};
        for (int[] w : wrong) {
            String what = " " + w[0] + " " + w[1] + " " + w[2];
            outOfBounds("shown" + what, () -> h.shown(w[0], w[1], w[2]));
            outOfBounds("shownMark" + what, () -> h.shownMark(w[0], w[1], w[2]));
        }
    }

    private void keys() {
        for (int no : NO_BYTES) {
            illegal("key " + no, () -> h.key(0, no));
        }
    }

    private void copying() {
        illegal("copy, the other place is ahead, in its row", () -> h.copy(0, 0, 1, 0, 0));
        illegal("copy, the other place is ahead", () -> h.copy(0, 1, 0, 0, 5));
        for (int index : new int[] {-1, 6, 400, Integer.MIN_VALUE, Integer.MAX_VALUE}) {
            none("copied " + index, () -> h.copied(index));
        }
        outOfBounds("copy, no such row, though ahead", () -> h.copy(0, 0, 0, -100, 0));
    }

    /** Calls that only ask change nothing, nor does being told what is so already. */
    private void asking() {
        for (int pane : new int[] {0, 2, 3, 4}) {
            h.cell(pane, 0, 0);
            h.mark(pane, 0, 0);
            h.goesOn(pane, 0);
        }
        h.shown(0, 0, 0);
        h.shownMark(0, 0, 0);
        h.meanPanes();
        h.choose(h.active(0));
        h.look(0, 0);
        h.share(0, h.share(0, 4));
        Due.is("what only asks changes nothing", All.of(h), before);
    }

    /** What is half given and kept back goes on, and what is kept is just that. */
    private void whatCannotBeAsked() {
        Bytes.feed(h, 0, "1m~8");
        Due.is("the sequence goes on", h.state(0, 'm'), 8);
        Due.is("answers", Bytes.answers(h, 0, h.feed(0, 0)), "~[0n");
        Due.is("2 is kept back", h.key(0, '!'), 'n');
        StringBuilder text = new StringBuilder();
        for (int i = h.state(3, 'y'); i > 0; i--) {
            text.append(h.typed(3)).append(' ');
        }
        Due.is("typed bytes", text.toString(), "111 110 101 13 116 119 ");
        Due.noSuchElement("no more are typed", () -> h.typed(3));
        Due.noSuchElement("no more answers", () -> h.answer(0));
    }

    private static void unchanged(String what, Panehouse full, Class<?> exception, Callable<?> call) {
        String before = All.of(full);
        Due.throwing(what, exception, call);
        Due.is(what + " changes nothing", All.of(full), before);
    }

    private static void fullHouse() {
        Panehouse full = new Panehouse();
        full.window();
        for (int i = 0; i < 4; i++) {
            full.attach(60, 24);
        }
        Bytes.feed(full, 0, "x".repeat(60 * 7));
        unchanged("copy of more than 400", full, IllegalStateException.class, () -> full.copy(0, 0, 0, 6, 59));
        unchanged("copy, ahead, of more than 400", full, IllegalArgumentException.class,
                () -> full.copy(0, 6, 59, 0, 0));
        unchanged("copy, no such column, ahead", full, IndexOutOfBoundsException.class,
                () -> full.copy(0, 6, 60, 0, 0));
        unchanged("share of the only pane", full, UnsupportedOperationException.class, () -> full.share(0, 5));
        unchanged("share of the only pane, and out of range", full, IllegalArgumentException.class,
                () -> full.share(0, 0));
        unchanged("close of the only pane", full, IllegalStateException.class, () -> full.close(0));
        unchanged("close of no pane", full, IndexOutOfBoundsException.class, () -> full.close(1));
        unchanged("a fifth client", full, IllegalStateException.class, () -> full.attach(60, 24));
        unchanged("a fifth client, and out of range", full, IllegalArgumentException.class, () -> full.attach(61, 24));
        unchanged("shownCursor", full, java.util.NoSuchElementException.class, () -> full.shownCursor(0, true));
        unchanged("answer", full, java.util.NoSuchElementException.class, () -> full.answer(0));
        unchanged("typed", full, java.util.NoSuchElementException.class, () -> full.typed(0));
        for (int i = 1; i < 8; i++) {
            full.split(0, i % 2 == 0, 5);
        }
        full.zoom(0);
        unchanged("a window with 8 panes", full, IllegalStateException.class, full::window);
        unchanged("split with 8 panes", full, IllegalStateException.class, () -> full.split(3, true, 5));
        unchanged("split with 8 panes, and out of range", full, IllegalArgumentException.class,
                () -> full.split(3, true, 0));
        unchanged("split with 8 panes, of none", full, IndexOutOfBoundsException.class, () -> full.split(8, true, 5));
        for (int i = 1; i < 8; i++) {
            full.close(i);
        }
        for (int i = 1; i < 4; i++) {
            full.window();
        }
        unchanged("a fifth window", full, IllegalStateException.class, full::window);
    }

    private static void emptyHouse() {
        Panehouse empty = new Panehouse();
        unchanged("attach without windows", empty, UnsupportedOperationException.class, () -> empty.attach(10, 5));
        unchanged("attach without windows, and out of range", empty, IllegalArgumentException.class,
                () -> empty.attach(10, 1));
        unchanged("meanPanes without windows", empty, ArithmeticException.class, empty::meanPanes);
        unchanged("copied", empty, java.util.NoSuchElementException.class, () -> empty.copied(0));
        unchanged("close", empty, IndexOutOfBoundsException.class, () -> empty.close(0));
        unchanged("swap", empty, IndexOutOfBoundsException.class, () -> empty.swap(0, 0));
        unchanged("feed", empty, IndexOutOfBoundsException.class, () -> empty.feed(0, -1));
        unchanged("detach", empty, IndexOutOfBoundsException.class, () -> empty.detach(0));
        unchanged("look", empty, IndexOutOfBoundsException.class, () -> empty.look(0, 0));
        Due.is("sound", empty.isSound(), true);
        Due.is("the first window", empty.window(), 0);
    }
}
