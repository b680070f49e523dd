/** Promises 1 to 14: windows and panes. */
public final class WindowsTest {
    private WindowsTest() {
    }

    public static void main(String[] args) {
        newHouse();
        makingWindows();
        splitting();
        sharing();
        needs();
        sizesWithClients();
        closing();
        swapping();
        swappingOfTwoWindows();
        newPaneWithAnOldNumber();
        choosing();
        zooming();
        placing();
        Due.end();
    }

    private static void newHouse() {
        Panehouse h = new Panehouse();
        Due.is("windows at first", h.windows(), 0);
        Due.outOfBounds("no window", () -> h.size(0, true));
        Due.outOfBounds("no pane", () -> h.place(0, 'r'));
        Due.outOfBounds("no client", () -> h.looksAt(0));
        Due.noSuchElement("nothing is copied", () -> h.copied(0));
    }

    private static void makingWindows() {
        Panehouse h = new Panehouse();
        for (int i = 0; i < 4; i++) {
            Due.is("window", h.window(), i);
            Due.is("active", h.active(i), i);
        }
        Due.is("windows", h.windows(), 4);
        Due.illegalState("a fifth window", h::window);
        Due.is("columns", h.size(3, true), 20);
        Due.is("rows", h.size(3, false), 8);
        Due.is("panes", h.panes(3), 1);
        h.close(1);
        Due.is("windows", h.windows(), 3);
        Due.outOfBounds("a closed window", () -> h.panes(1));
        Due.is("least free window", h.window(), 1);
        Due.is("with the least free pane", h.paneAt(1, 0), 1);

        Panehouse full = new Panehouse();
        full.window();
        for (int i = 1; i < 8; i++) {
            Due.is("split", full.split(0, true, 5), i);
        }
        Due.illegalState("a window with a ninth pane", full::window);
        for (int number : new int[] {-1, 4, 1, Integer.MIN_VALUE, Integer.MAX_VALUE}) {
            Due.outOfBounds("size", () -> full.size(number, true));
            Due.outOfBounds("panes", () -> full.panes(number));
            Due.outOfBounds("paneAt", () -> full.paneAt(number, -1));
            Due.outOfBounds("active", () -> full.active(number));
            Due.outOfBounds("zoom", () -> full.zoom(number));
        }
    }

    private static String places(Panehouse h, int window) {
        StringBuilder text = new StringBuilder();
        for (int i = 0; i < h.panes(window); i++) {
            int pane = h.paneAt(window, i);
            text.append(i == 0 ? "" : " ").append(pane).append(':').append(h.place(pane, 'r')).append(',');
            text.append(h.place(pane, 'c')).append(',').append(h.place(pane, 'h')).append(',');
            text.append(h.place(pane, 'w'));
        }
        return text.toString();
    }

    private static void splitting() {
        Panehouse h = new Panehouse();
        h.window();
        Due.is("split beside", h.split(0, true, 3), 1);
        Due.is("active is the new one", h.active(0), 1);
        Due.is("places", places(h, 0), "0:0,0,8,5 1:0,6,8,14");
        Due.is("split over", h.split(0, false, 9), 2);
        Due.is("places", places(h, 0), "0:0,0,6,5 2:7,0,1,5 1:0,6,8,14");
        Due.is("in order", h.paneAt(0, 1), 2);
        Due.noSuchElement("not so many", () -> h.paneAt(0, 3));
        Due.noSuchElement("not so many", () -> h.paneAt(0, -1));
        Due.is("a new pane is plain", Bytes.row(h, 2, 0), ".....");
        Due.outOfBounds("no such pane ahead of a wrong share", () -> h.split(3, true, 0));
        Due.illegalArgument("share", () -> h.split(0, true, 0));
        Due.illegalArgument("share", () -> h.split(0, true, 10));
        for (int i = 3; i < 8; i++) {
            h.split(1, false, 5);
        }
        Due.illegalArgument("share ahead of too many", () -> h.split(0, true, 10));
        Due.illegalState("8 panes", () -> h.split(0, true, 1));
        Due.is("panes", h.panes(0), 8);
    }

    private static void sharing() {
        Panehouse h = new Panehouse();
        h.window();
        Due.unsupported("the only pane", () -> h.share(0, 5));
        Due.illegalArgument("ahead of that", () -> h.share(0, 0));
        Due.outOfBounds("ahead of both", () -> h.share(1, 0));
        h.split(0, true, 5);
        h.split(1, false, 5);
        Due.is("share of the pair above", h.share(0, 1), 5);
        Due.is("at least what it needs", places(h, 0), "0:0,0,8,2 1:0,3,3,17 2:4,3,4,17");
        Due.is("share told through the second one", h.share(2, 7), 5);
        Due.is("places", places(h, 0), "0:0,0,8,2 1:0,3,4,17 2:5,3,3,17");
        Due.is("share ahead", h.share(1, 9), 7);
        Due.is("share ahead", h.share(0, 9), 1);
        Due.is("cut", places(h, 0), "0:0,0,8,17 1:0,18,6,2 2:7,18,1,2");
        Due.illegalArgument("too great", () -> h.share(0, 10));
    }

    private static void needs() {
        Panehouse h = new Panehouse();
        h.window();
        h.attach(4, 2);
        Due.is("as the client has", places(h, 0), "0:0,0,1,4");
        h.split(0, true, 9);
        Due.is("beside each other both and 1", places(h, 0), "0:0,0,1,2 1:0,3,1,2");
        Due.is("columns", h.size(0, true), 5);
        h.split(1, true, 1);
        h.split(0, false, 1);
        Due.is("over each other both and 1", places(h, 0), "0:0,0,1,2 3:2,0,1,2 1:0,3,3,2 2:0,6,3,2");
        Due.is("columns", h.size(0, true), 8);
        Due.is("rows", h.size(0, false), 3);
        h.close(2);
        Due.is("no more than the client has, or it needs", places(h, 0), "0:0,0,1,2 3:2,0,1,2 1:0,3,3,2");
        h.detach(0);
        Due.is("what it had", h.size(0, true), 5);
        h.close(3);
        Due.is("what it had", h.size(0, false), 3);
        h.split(0, true, 5);
        Due.is("not enough", h.size(0, true), 8);
        h.close(2);
        Due.is("what it had", h.size(0, true), 8);
    }

    private static void sizesWithClients() {
        Panehouse h = new Panehouse();
        h.window();
        h.window();
        h.attach(30, 10);
        h.attach(12, 20);
        Due.is("least of the columns", h.size(0, true), 12);
        Due.is("least of the rows less 1", h.size(0, false), 9);
        Due.is("the other one as at first", h.size(1, true), 20);
        h.look(1, 1);
        Due.is("columns", h.size(0, true), 30);
        Due.is("columns", h.size(1, true), 12);
        Due.is("rows", h.size(1, false), 19);
        h.look(1, 0);
        Due.is("what it had", h.size(1, false), 19);
        h.attach(20, 9);
        Due.is("least of the rows less 1", h.size(0, false), 8);
        h.detach(2);
        h.resize(1, 60, 24);
        Due.is("columns", h.size(0, true), 30);
        h.detach(0);
        Due.is("columns", h.size(0, true), 60);
        Due.is("rows", h.size(0, false), 23);
    }

    private static void closing() {
        Panehouse h = new Panehouse();
        h.window();
        Due.illegalState("the only one of all", () -> h.close(0));
        Due.outOfBounds("no such pane", () -> h.close(1));
        h.split(0, true, 5);
        h.split(1, false, 5);
        h.split(1, true, 5);
        Due.is("places", places(h, 0), "0:0,0,8,9 1:0,10,3,4 3:0,15,3,5 2:4,10,4,10");
        h.choose(0);
        Due.is("close", h.close(0), 3);
        Due.is("the other part takes its place", places(h, 0), "1:0,0,3,9 3:0,10,3,10 2:4,0,4,20");
        Due.is("its first one is active", h.active(0), 1);
        h.choose(3);
        Due.is("close one that is not active", h.close(2), 2);
        Due.is("active as before", h.active(0), 3);
        Due.is("places", places(h, 0), "1:0,0,8,9 3:0,10,8,10");
        h.close(3);
        Due.is("the second one goes", places(h, 0), "1:0,0,8,20");
        Due.is("active", h.active(0), 1);

        h.window();
        h.window();
        h.attach(10, 5);
        h.look(0, 2);
        h.window();
        Due.is("close a window", h.close(h.active(2)), 3);
        Due.is("its client looks at the least one", h.looksAt(0), 0);
        Due.is("which has its size", h.size(0, true), 10);
        h.close(1);
        Due.is("the least one is another then", h.looksAt(0), 1);
        Due.is("windows", h.windows(), 2);
        h.close(h.active(1));
        Due.is("the least one is the last one", h.looksAt(0), 3);
        Due.illegalState("the only one of all", () -> h.close(h.active(3)));
    }

    private static void swapping() {
        Panehouse h = new Panehouse();
        h.window();
        h.split(0, true, 3);
        h.split(1, false, 5);
        Bytes.feed(h, 0, "zero");
        Due.is("panes between", h.swap(2, 0), 1);
        Due.is("order", places(h, 0), "2:0,0,8,5 1:0,6,3,14 0:4,6,4,14");
        Due.is("who stands in the active one's place", h.active(0), 0);
        Due.is("its screen goes with it", Bytes.row(h, 0, 0), "zero..........");
        Due.is("none between", h.swap(2, 1), 0);
        Due.is("active as before", h.active(0), 0);
        Due.is("none between", h.swap(0, 2), 0);
        Due.is("order", places(h, 0), "1:0,0,8,5 0:0,6,3,14 2:4,6,4,14");
        Due.is("active", h.active(0), 2);
        Due.illegalArgument("the same", () -> h.swap(1, 1));
        Due.outOfBounds("no such pane", () -> h.swap(3, 3));
        Due.outOfBounds("no such pane", () -> h.swap(0, 3));
        Due.outOfBounds("no such pane", () -> h.swap(-1, 0));
    }

    private static void swappingOfTwoWindows() {
        Panehouse h = new Panehouse();
        h.window();
        h.window();
        h.split(1, true, 5);
        h.zoom(0);
        h.zoom(1);
        Due.is("of two windows", h.swap(0, 1), -1);
        Due.is("order", places(h, 0), "1:0,0,8,20");
        Due.is("order", places(h, 1), "0:0,0,8,9 2:0,10,8,10");
        Due.is("active", h.active(0), 1);
        Due.is("active as before", h.active(1), 2);
        Due.is("both are not zoomed then", h.zoom(0), true);
        Due.is("both are not zoomed then", h.zoom(1), true);
        Due.is("of two windows", h.swap(2, 1), -1);
        Due.is("active", h.active(0), 2);
        Due.is("active", h.active(1), 1);
        Due.is("close goes on in its new window", h.close(0), 2);
        Due.is("order", places(h, 1), "1:0,0,8,20");
        h.close(2);
        Due.outOfBounds("the window is closed", () -> h.panes(0));
    }

    private static void newPaneWithAnOldNumber() {
        Panehouse h = new Panehouse();
        h.window();
        h.split(0, true, 5);
        long plain = h.checksum(1);
        Bytes.feed(h, 1, "x\n\n\n\n\n\n\n\n\n\u0007~[5n~[4m~[2;3H~7~[2;4r~[4h~[?6h~[?7;25l~[?47hxy~[31");
        h.close(1);
        Due.is("split", h.split(0, true, 5), 1);
        Due.is("plain", h.checksum(1), plain);
        String all = "";
        for (char what : "rcwmtbaiovskpy".toCharArray()) {
            all += h.state(1, what);
        }
        Due.is("state", all, "00000700011000");
        Due.noSuchElement("no answers", () -> h.answer(1));
        Bytes.feed(h, 1, "m~8");
        Due.is("no sequence is begun, and nothing is saved", Bytes.row(h, 1, 0) + h.state(1, 'm'), "m.........0");
        Due.is("cursor", Bytes.cursor(h, 1), "0,0");
    }

    private static void choosing() {
        Panehouse h = new Panehouse();
        h.window();
        h.split(0, true, 5);
        Due.is("the one ahead", h.choose(0), 1);
        Due.is("active", h.active(0), 0);
        Due.is("the same", h.choose(0), 0);
        Due.outOfBounds("no such pane", () -> h.choose(2));
        h.zoom(0);
        h.choose(0);
        Due.is("zoomed as before", h.place(0, 'w'), 20);
        h.choose(1);
        Due.is("another one ends a zoom", h.place(1, 'w'), 10);
        Due.outOfBounds("its screen", () -> h.cell(0, 0, 9));
        Due.is("sound", h.isSound(), true);
        Due.is("another one ends a zoom", h.zoom(0), true);
    }

    private static void zooming() {
        Panehouse h = new Panehouse();
        h.window();
        Due.is("zoom of one pane", h.zoom(0), true);
        Due.is("zoom of one pane", h.zoom(0), false);
        h.split(0, true, 5);
        h.split(1, false, 5);
        Bytes.feed(h, 2, "abcdefghijkl");
        Due.is("wrapped", Bytes.onward(h, 2), "1000");
        Due.is("zoom", h.zoom(0), true);
        Due.is("place of the zoomed one", places(h, 0), "0:0,0,8,9 1:0,10,3,10 2:0,0,8,20");
        Due.is("its screen", Bytes.row(h, 2, 0), "abcdefghijkl........");
        Due.is("the last row is there", Bytes.row(h, 2, 7), "....................");
        Due.outOfBounds("not of others", () -> h.cell(1, 3, 0));
        Due.is("share keeps a zoom", h.share(0, 4), 5);
        Due.is("places", places(h, 0), "0:0,0,8,7 1:0,8,3,12 2:0,0,8,20");
        h.split(0, false, 5);
        Due.is("a split ends it", places(h, 0), "0:0,0,3,7 3:4,0,4,7 1:0,8,3,12 2:4,8,4,12");
        h.zoom(0);
        h.close(1);
        Due.is("closing ends it", places(h, 0), "0:0,0,3,7 3:4,0,4,7 2:0,8,8,12");
        h.zoom(0);
        h.swap(0, 2);
        Due.is("swapping ends it", places(h, 0), "2:0,0,3,7 3:4,0,4,7 0:0,8,8,12");
    }

    private static void placing() {
        Panehouse h = new Panehouse();
        h.window();
        Due.illegalArgument("letter", () -> h.place(0, 'x'));
        Due.illegalArgument("letter", () -> h.place(0, (char) 0));
        Due.outOfBounds("pane ahead of the letter", () -> h.place(1, 'x'));
        Due.outOfBounds("pane", () -> h.place(8, 'r'));
        Due.outOfBounds("pane", () -> h.place(-1, 'r'));
    }
}
