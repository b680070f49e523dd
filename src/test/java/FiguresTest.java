/** Promises 36 to 40: figures. */
public final class FiguresTest {
    private FiguresTest() {
    }

    public static void main(String[] args) {
        plainShares();
        means();
        checksums();
        shownSums();
        soundness();
        Due.end();
    }

    private static void plainShares() {
        Panehouse h = Bytes.house(7, 3);
        Due.is("all plain", h.plainShare(0), 1f);
        Bytes.feed(h, 0, "ab c~[7m ");
        Due.is("a blank with a mark is not plain", h.plainShare(0), (float) 17 / (float) 21);
        Bytes.feed(h, 0, "~[?47hx");
        Due.is("the screen in use", h.plainShare(0), (float) 20 / (float) 21);
        Due.outOfBounds("no pane", () -> h.plainShare(1));
    }

    private static void means() {
        Panehouse h = new Panehouse();
        Due.throwing("no windows", ArithmeticException.class, h::meanPanes);
        h.window();
        Due.is("mean", h.meanPanes(), 1.0);
        h.window();
        h.window();
        h.split(0, true, 5);
        Due.is("mean", h.meanPanes(), 4.0 / 3.0);
    }

    private static long plus(long sum, long... next) {
        long all = sum;
        for (long one : next) {
            all = all * 31 + one;
        }
        return all;
    }

    private static void checksums() {
        Panehouse h = Bytes.house(4, 1);
        long plain = plus(7, 0, 0, 32, 0, 32, 0, 32, 0, 32, 0, 0, 32, 0, 32, 0, 32, 0, 32, 0);
        Due.is("plain", h.checksum(0), plus(plain, 0, 0, 0));
        Bytes.feed(h, 0, "abc~[1md");
        long before = plus(7, 0, 0, 97, 0, 98, 0, 99, 0, 100, 1, 0, 32, 0, 32, 0, 32, 0, 32, 0);
        Due.is("waiting", h.checksum(0), plus(before, 0, 3, 1));
        Bytes.feed(h, 0, "e~[?47h~[mxy");
        long after = plus(7, 1, 1, 97, 0, 98, 0, 99, 0, 100, 1, 0, 101, 1, 32, 0, 32, 0, 32, 0);
        after = plus(after, 0, 120, 0, 121, 0, 32, 0, 32, 0);
        Due.is("both screens, the cursor in use", h.checksum(0), plus(after, 0, 2, 0));
        Due.outOfBounds("no pane", () -> h.checksum(1));
    }

    private static void shownSums() {
        Panehouse h = Bytes.house(4, 1);
        long plain = plus(7, 32, 0, 32, 0, 32, 0, 32, 0, 32, 0, 32, 0, 32, 0, 32, 0);
        Due.is("no cursor", h.shownSum(0), plus(plain, -1, -1));
        Bytes.feed(h, 0, "a~[4mb");
        h.redraw(0);
        long drawn = plus(7, 97, 0, 98, 2, 32, 0, 32, 0, '0', 4, '*', 4, 32, 4, 32, 4);
        Due.is("a cursor", h.shownSum(0), plus(drawn, 0, 2));
        Due.outOfBounds("no client", () -> h.shownSum(1));
    }

    private static void soundness() {
        Panehouse h = new Panehouse();
        Due.is("an empty house", h.isSound(), true);
        h.window();
        h.attach(4, 2);
        for (int i = 0; i < 7; i++) {
            h.split(i, i % 2 == 0, 1 + i);
            Due.is("split", h.isSound(), true);
        }
        Due.is("8 panes in each other", h.size(0, true) * 100 + h.size(0, false), 1407);
        Bytes.feed(h, 7, "abc~[?47hdef");
        h.redraw(0);
        h.zoom(0);
        Due.is("zoomed", h.isSound(), true);
        h.resize(0, 60, 24);
        Due.is("the greatest size", h.isSound(), true);
        h.zoom(0);
        h.redraw(0);
        Due.is("redrawn", h.isSound(), true);
        long sum = h.shownSum(0);
        h.isSound();
        Due.is("it is redrawn in mind only", h.shownSum(0), sum);
    }
}
