/** Promises 22 to 32: clients, what they are shown, and what they type. */
public final class ClientsTest {
    private ClientsTest() {
    }

    public static void main(String[] args) {
        coming();
        going();
        sizes();
        looking();
        redrawing();
        bars();
        panesAndBorders();
        beyond();
        zoomed();
        cursors();
        shownWrong();
        typing();
        commands();
        commandsWithNumberNought();
        commandsThatCannotBeDone();
        typedBytes();
        Due.end();
    }

    private static void coming() {
        Panehouse h = new Panehouse();
        Due.unsupported("no window", () -> h.attach(10, 5));
        Due.illegalArgument("ahead of that", () -> h.attach(3, 5));
        h.window();
        h.window();
        int[][] wrong = {{3, 5}, {61, 5}, {10, 1}, {10, 25}, {-1, 5}, {10, Integer.MAX_VALUE}};
        for (int[] size : wrong) {
            Due.illegalArgument("attach", () -> h.attach(size[0], size[1]));
        }
        Due.is("attach", h.attach(4, 2), 0);
        Due.is("attach", h.attach(60, 24), 1);
        Due.is("attach", h.attach(60, 2), 2);
        Due.is("attach", h.attach(4, 24), 3);
        Due.is("looks at the least", h.looksAt(3), 0);
        Due.illegalState("a fifth one", () -> h.attach(10, 5));
        Due.illegalArgument("ahead of that", () -> h.attach(10, 1));
        h.detach(1);
        h.close(0);
        Due.is("least free number", h.attach(10, 5), 1);
        Due.is("looks at the least", h.looksAt(1), 1);
        Due.is("plain cells", Bytes.shown(h, 1, 4, 10), "..........");
        Due.is("plain cells", h.shownMark(1, 4, 0), 0);
        Due.noSuchElement("no cursor", () -> h.shownCursor(1, true));
    }

    private static void going() {
        Panehouse h = new Panehouse();
        h.window();
        h.attach(10, 5);
        h.attach(12, 6);
        Due.is("left", h.detach(0), 1);
        Due.is("the window's size", h.size(0, true), 12);
        Due.outOfBounds("gone", () -> h.detach(0));
        Due.outOfBounds("never there", () -> h.detach(2));
        Due.outOfBounds("never there", () -> h.detach(-1));
        Due.outOfBounds("never there", () -> h.detach(4));
        Due.is("left", h.detach(1), 0);
        Due.is("the window's size", h.size(0, true), 12);
        h.attach(8, 5);
        h.window();
        h.look(0, 1);
        h.redraw(0);
        h.key(0, 2);
        h.detach(0);
        h.attach(8, 5);
        Due.is("a new one looks at the least", h.looksAt(0), 0);
        Due.is("a new one shows plain cells", Bytes.shown(h, 0, 4, 8), "........");
        Due.is("a new one keeps nothing back", h.key(0, 'x'), 't');
    }

    private static void sizes() {
        Panehouse h = Bytes.house(10, 4);
        h.redraw(0);
        Due.is("bar", Bytes.shown(h, 0, 4, 10), "0*........");
        Due.is("columns it had", h.resize(0, 10, 5), 10);
        Due.is("plain also with the same size", Bytes.shown(h, 0, 4, 10), "..........");
        Due.noSuchElement("no cursor", () -> h.shownCursor(0, false));
        Due.is("columns it had", h.resize(0, 60, 24), 10);
        Due.is("columns it had", h.resize(0, 4, 2), 60);
        Due.is("rows", h.size(0, false), 1);
        Due.illegalArgument("columns", () -> h.resize(0, 3, 5));
        Due.illegalArgument("columns", () -> h.resize(0, 61, 5));
        Due.illegalArgument("rows", () -> h.resize(0, 10, 1));
        Due.illegalArgument("rows", () -> h.resize(0, 10, 25));
        Due.outOfBounds("ahead of that", () -> h.resize(1, 10, 25));
        Due.is("columns as before", h.size(0, true), 4);
    }

    private static void looking() {
        Panehouse h = Bytes.house(10, 4);
        h.window();
        Due.is("look", h.look(0, 1), 0);
        Due.is("looksAt", h.looksAt(0), 1);
        Due.is("size", h.size(1, true), 10);
        Due.is("look", h.look(0, 1), 1);
        Due.is("look", h.look(0, 0), 1);
        Due.outOfBounds("client", () -> h.look(1, 0));
        Due.outOfBounds("window", () -> h.look(0, 2));
        Due.outOfBounds("window", () -> h.look(0, -1));
        Due.outOfBounds("client", () -> h.looksAt(1));
        Due.outOfBounds("client", () -> h.looksAt(-1));
    }

    private static void redrawing() {
        Panehouse h = Bytes.house(10, 4);
        Bytes.feed(h, 0, "abc");
        Due.is("three signs and the bar", h.redraw(0), 13);
        Due.is("nothing", h.redraw(0), 0);
        Bytes.feed(h, 0, "\rab~[1mc~[4md");
        Due.is("not shown yet", h.shown(0, 0, 3), ' ');
        h.attach(10, 7);
        h.redraw(1);
        h.detach(1);
        Due.is("a mark and a sign", h.redraw(0), 2);
        Due.is("mark", h.shownMark(0, 0, 2), 1);
        Due.is("mark", h.shownMark(0, 0, 3), 3);
        Due.is("mark of the bar", h.shownMark(0, 4, 9), 4);
        Bytes.feed(h, 0, "~[?47h");
        Due.is("the screen in use", h.redraw(0), 4);
        Due.outOfBounds("no client", () -> h.redraw(1));
        Due.outOfBounds("no client", () -> h.redraw(-1));
    }

    private static void bars() {
        Panehouse h = Bytes.house(10, 1);
        h.window();
        h.window();
        h.window();
        h.close(1);
        h.attach(5, 3);
        h.attach(4, 2);
        h.look(0, 2);
        h.look(1, 3);
        h.redraw(0);
        h.redraw(1);
        h.redraw(2);
        Due.is("bar", Bytes.shown(h, 0, 1, 10), "0.2*3.....");
        Due.is("as far as they go", Bytes.shown(h, 1, 2, 5), "0.2.3");
        Due.is("as far as they go", Bytes.shown(h, 2, 1, 4), "0*2.");
        Due.is("turned", h.shownMark(0, 1, 1) * 10 + h.shownMark(0, 1, 9), 44);
        Due.is("not turned", h.shownMark(1, 1, 0), 0);
    }

    private static Panehouse threePanes() {
        Panehouse h = Bytes.house(10, 5);
        h.split(0, true, 5);
        h.split(1, false, 5);
        Bytes.feed(h, 0, "zero");
        Bytes.feed(h, 1, "~[1mone");
        Bytes.feed(h, 2, "\r\ntwo");
        return h;
    }

    private static String client(Panehouse h, int client, int rows, int columns) {
        StringBuilder text = new StringBuilder();
        for (int row = 0; row < rows; row++) {
            text.append(row == 0 ? "" : "/").append(Bytes.shown(h, client, row, columns));
        }
        return text.toString();
    }

    private static void panesAndBorders() {
        Panehouse h = threePanes();
        h.redraw(0);
        Due.is("panes and borders", client(h, 0, 6, 10),
                "zero|one../....|...../....|-----/....|...../....|two../0*........");
        Due.is("row of the cursor", h.shownCursor(0, true), 4);
        Due.is("its column", h.shownCursor(0, false), 8);
        Due.is("mark of a border", h.shownMark(0, 2, 4), 0);
        Due.is("mark of a cell", h.shownMark(0, 0, 5), 1);
        h.choose(0);
        Due.is("only the cursor", h.redraw(0), 0);
        Due.is("row of the cursor", h.shownCursor(0, true), 0);
        Due.is("its column", h.shownCursor(0, false), 3);
    }

    private static void beyond() {
        Panehouse h = threePanes();
        h.attach(13, 8);
        h.redraw(1);
        Due.is("plain cells beyond", client(h, 1, 8, 13), "zero|one...../....|......../....|-----.../"
                + "....|......../....|two...../............./............./0*...........");
        h.split(2, true, 5);
        h.split(2, true, 5);
        h.resize(0, 4, 4);
        h.redraw(0);
        Due.is("as it needs", h.size(0, true), 11);
        Due.is("as far as the client has", client(h, 0, 4, 4), "ze|o/ro|-/..|o/0*..");
    }

    private static void zoomed() {
        Panehouse h = threePanes();
        h.zoom(0);
        h.redraw(0);
        Due.is("only the active one", client(h, 0, 6, 10),
                "........../two......./........../........../........../0*........");
        Due.is("row of the cursor", h.shownCursor(0, true), 1);
        Due.is("its column", h.shownCursor(0, false), 3);
        h.zoom(0);
        h.redraw(0);
        Due.is("all of them", Bytes.shown(h, 0, 2, 10), "....|-----");
    }

    private static void cursors() {
        Panehouse h = threePanes();
        Bytes.feed(h, 2, "~[?25l");
        h.redraw(0);
        Due.noSuchElement("not shown", () -> h.shownCursor(0, true));
        long shown = h.shownSum(0);
        h.choose(1);
        Bytes.feed(h, 1, "~[?25l");
        h.redraw(0);
        Due.is("no place of it is left", h.shownSum(0), shown);
        h.choose(2);
        Bytes.feed(h, 2, "~[?25h");
        Due.noSuchElement("not redrawn", () -> h.shownCursor(0, true));
        Due.is("nothing but the cursor", h.redraw(0), 0);
        Due.is("shown", h.shownCursor(0, true), 4);
        Due.outOfBounds("no client", () -> h.shownCursor(1, true));

        Panehouse small = new Panehouse();
        small.window();
        small.attach(4, 2);
        small.split(0, true, 5);
        small.redraw(0);
        Due.is("at the last column", small.shownCursor(0, false), 3);
        Bytes.feed(small, 1, "x");
        small.redraw(0);
        Due.noSuchElement("not in a column", () -> small.shownCursor(0, false));
        small.choose(0);
        small.split(0, false, 5);
        small.redraw(0);
        Due.noSuchElement("not in a row", () -> small.shownCursor(0, true));
        small.choose(0);
        small.redraw(0);
        Due.is("in a row", small.shownCursor(0, true), 0);
        small.resize(0, 4, 3);
        small.choose(2);
        small.redraw(0);
        Due.noSuchElement("in the last row", () -> small.shownCursor(0, true));
        small.resize(0, 4, 4);
        small.redraw(0);
        Due.is("ahead of the last row", small.shownCursor(0, true), 2);
    }

    private static void shownWrong() {
        Panehouse h = Bytes.house(10, 4);
        int[][] wrong = {{1, 0, 0}, {-1, 0, 0}, {0, 5, 0}, {0, -1, 0}, {0, 0, 10}, {0, 0, -1}};
        for (int[] place : wrong) {
            Due.outOfBounds("shown", () -> h.shown(place[0], place[1], place[2]));
            Due.outOfBounds("shownMark", () -> h.shownMark(place[0], place[1], place[2]));
        }
        Due.is("shown", h.shown(0, 4, 9), ' ');
    }

    private static void typing() {
        Panehouse h = threePanes();
        Due.is("typed", h.key(0, 'a'), 't');
        Due.is("typed", h.key(0, 0), 't');
        Due.is("typed", h.key(0, 255), 't');
        Due.is("for the active one", h.state(2, 'y'), 3);
        Due.is("taken", h.typed(2), 'a');
        Due.is("taken", h.typed(2), 0);
        Due.is("taken", h.typed(2), 255);
        Due.noSuchElement("no more", () -> h.typed(2));
        Due.outOfBounds("no pane", () -> h.typed(3));
        Due.illegalArgument("sign", () -> h.key(0, 256));
        Due.illegalArgument("sign", () -> h.key(0, -1));
        Due.outOfBounds("client ahead of the sign", () -> h.key(1, 256));
        Due.is("kept back", h.key(0, 2), 'k');
        Due.illegalArgument("changes nothing", () -> h.key(0, 300));
        Due.is("2 types 2", h.key(0, 2), 't');
        Due.is("kept back no more", h.key(0, 'z'), 't');
        Due.is("typed", h.typed(2), 2);
        Due.is("typed", h.typed(2), 'z');
        h.attach(10, 6);
        h.key(0, 2);
        Due.is("another client's is its own", h.key(1, 'z'), 't');
        Due.is("still kept back", h.key(0, '?'), 'n');
    }

    private static char command(Panehouse h, int client, int sign) {
        Due.is("kept back", h.key(client, 2), 'k');
        return h.key(client, sign);
    }

    private static void commands() {
        Panehouse h = Bytes.house(20, 8);
        Due.is("%", command(h, 0, '%'), 'c');
        Due.is("beside, 5 tenths", h.place(1, 'c'), 10);
        Due.is("active", h.active(0), 1);
        Due.is("\"", command(h, 0, '"'), 'c');
        Due.is("over each other, 5 tenths", h.place(2, 'r'), 4);
        Due.is("z", command(h, 0, 'z'), 'c');
        Due.is("zoomed", h.place(2, 'w'), 20);
        Due.is("z", command(h, 0, 'z'), 'c');
        Due.is("not zoomed", h.place(2, 'w'), 10);
        command(h, 0, 'z');
        Due.is("o", command(h, 0, 'o'), 'c');
        Due.is("the first one behind the last", h.active(0), 0);
        Due.is("it ends a zoom", h.place(2, 'w'), 10);
        Due.is("o", command(h, 0, 'o'), 'c');
        Due.is("the next one", h.active(0), 1);
        Due.is("x", command(h, 0, 'x'), 'c');
        Due.is("closed", h.panes(0), 2);
        Due.is("active", h.active(0), 2);
        Due.is("c", command(h, 0, 'c'), 'c');
        Due.is("looks at it", h.looksAt(0), 1);
        Due.is("its pane is the least one", h.active(1), 1);
        h.window();
        h.close(h.active(1));
        Due.is("closed", h.looksAt(0), 0);
        Due.is("n", command(h, 0, 'n'), 'c');
        Due.is("next by number", h.looksAt(0), 2);
        Due.is("n", command(h, 0, 'n'), 'c');
        Due.is("the least behind the greatest", h.looksAt(0), 0);
        Due.is("size", h.size(2, true), 20);
        h.window();
        command(h, 0, 'n');
        Due.is("the very next one", h.looksAt(0), 1);
        command(h, 0, 'n');
        Due.is("the very next one", h.looksAt(0), 2);
        command(h, 0, 'n');
        h.attach(30, 10);
        Due.is("d", command(h, 0, 'd'), 'c');
        Due.outOfBounds("gone", () -> h.looksAt(0));
        Due.is("the window's size", h.size(0, true), 30);
    }

    private static void commandsWithNumberNought() {
        Panehouse h = Bytes.house(20, 8);
        h.split(0, true, 5);
        h.split(1, true, 5);
        h.swap(0, 1);
        h.choose(1);
        command(h, 0, 'o');
        Due.is("the next one is 0", h.active(0), 0);
        h.choose(1);
        h.close(0);
        Due.is("% with 0 free", command(h, 0, '%'), 'c');
        Due.is("its number", h.active(0), 0);
        h.close(0);
        Due.is("c with 0 free", command(h, 0, 'c'), 'c');
        Due.is("its number", h.active(1), 0);
        h.close(1);
        h.close(2);
        Due.is("looks at", h.looksAt(0), 1);
        Due.is("c with window 0 free", command(h, 0, 'c'), 'c');
        Due.is("looks at", h.looksAt(0), 0);
    }

    private static void commandsThatCannotBeDone() {
        Panehouse h = Bytes.house(20, 8);
        Due.is("x of the only pane", command(h, 0, 'x'), 'n');
        Due.is("others", command(h, 0, 'q'), 'n');
        Due.is("others", command(h, 0, 0), 'n');
        Due.is("nothing was typed", h.state(0, 'y'), 0);
        Due.is("o of one pane", command(h, 0, 'o'), 'c');
        Due.is("n of one window", command(h, 0, 'n'), 'c');
        for (int i = 0; i < 3; i++) {
            command(h, 0, 'c');
        }
        Due.is("c with 4 windows", command(h, 0, 'c'), 'n');
        Due.is("looks at", h.looksAt(0), 3);
        for (int i = 0; i < 4; i++) {
            command(h, 0, '%');
        }
        Due.is("% with 8 panes", command(h, 0, '%'), 'n');
        Due.is("\" with 8 panes", command(h, 0, '"'), 'n');
        Due.is("panes", h.panes(3), 5);
        h.close(0);
        h.split(1, true, 5);
        Due.is("c with 8 panes", command(h, 0, 'c'), 'n');
        Due.is("windows", h.windows(), 3);
    }

    private static void typedBytes() {
        Panehouse h = Bytes.house(20, 8);
        for (int i = 0; i < 200; i++) {
            Due.is("typed", h.key(0, 'a' + i % 26), 't');
        }
        Due.is("200 at most", h.state(0, 'y'), 200);
        Due.is("lost", h.key(0, '!'), 't');
        Due.is("200 at most", h.state(0, 'y'), 200);
        h.key(0, 2);
        Due.is("lost", h.key(0, 2), 't');
        Due.is("the first one", h.typed(0), 'a');
        Due.is("room for one", h.key(0, '?'), 't');
        for (int i = 1; i < 200; i++) {
            Due.is("typed", h.typed(0), 'a' + i % 26);
        }
        Due.is("the last one", h.typed(0), '?');
        Due.noSuchElement("no more", () -> h.typed(0));
        h.key(0, 'x');
        h.split(0, true, 5);
        h.close(0);
        h.split(1, true, 5);
        Due.is("a new pane with an old number has none", h.state(0, 'y'), 0);
    }
}
