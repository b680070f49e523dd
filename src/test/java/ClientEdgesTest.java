/** The boundary cases of parts 6 and 7 and of promises 22 to 32, each beside the sentence that names it. */
public final class ClientEdgesTest {
    private ClientEdgesTest() {
    }

    public static void main(String[] args) {
        sizes();
        numbers();
        leastWindow();
        asItComes();
        asItsSizeIsTold();
        shownPlaces();
        bars();
        smallest();
        windowsThatAreGreater();
        windowsThatAreLess();
        whatIsGone();
        panesThatAreGone();
        borders();
        changedCells();
        cursorsOutside();
        cursorsThatAreNotShown();
        cursorsOfTheActivePane();
        bytes();
        keepingBack();
        otherCommands();
        splitCommands();
        nextPane();
        closeCommand();
        zoomCommand();
        nextWindow();
        windowCommand();
        leaveCommand();
        twoHundred();
        whoTypes();
        Due.end();
    }

    private static void sizes() {
        Panehouse h = new Panehouse();
        Due.unsupported("there is no window", () -> h.attach(4, 2));
        h.window();
        int[][] due = {{4, 2}, {60, 2}, {4, 24}, {60, 24}};
        for (int[] size : due) {
            Due.is("4 to 60 columns and 2 to 24 rows", h.attach(size[0], size[1]), 0);
            Due.is("how many columns it had", h.resize(0, size[0], size[1]), size[0]);
            h.detach(0);
        }
        h.attach(10, 5);
        int[][] wrong = {{3, 2}, {61, 2}, {4, 1}, {4, 25}, {0, 5}, {-4, 5}, {10, 0}, {10, -2}, {Integer.MAX_VALUE, 5},
            {10, Integer.MIN_VALUE}, {3, 25}};
        for (int[] size : wrong) {
            Due.illegalArgument("out of range", () -> h.attach(size[0], size[1]));
            Due.illegalArgument("out of range", () -> h.resize(0, size[0], size[1]));
            Due.outOfBounds("no such client, and out of range", () -> h.resize(1, size[0], size[1]));
        }
        Due.is("the size is as before", h.resize(0, 10, 5), 10);
    }

    private static void numbers() {
        Panehouse h = new Panehouse();
        h.window();
        for (int i = 0; i < 4; i++) {
            Due.is("the least number from 0 that is free", h.attach(10, 5), i);
        }
        Due.illegalState("at most 4", () -> h.attach(10, 5));
        Due.illegalArgument("at most 4, and out of range", () -> h.attach(3, 5));
        for (int i = 0; i < 4; i++) {
            Due.is("how many are left", h.detach(i), 3);
            Due.is("the least number that is free", h.attach(10, 5), i);
        }
        for (int i = 3; i >= 0; i--) {
            Due.is("how many are left", h.detach(i), i);
        }
        Due.outOfBounds("there is no such client", () -> h.detach(0));
        Due.is("the first one again", h.attach(10, 5), 0);
    }

    private static void leastWindow() {
        Panehouse h = new Panehouse();
        h.window();
        h.window();
        h.window();
        h.attach(10, 5);
        Due.is("that of the least number at first", h.looksAt(0), 0);
        h.look(0, 2);
        h.close(0);
        Due.is("it looks at another one", h.looksAt(0), 2);
        h.attach(10, 5);
        Due.is("that of the least number at first", h.looksAt(1), 1);
        h.window();
        h.attach(10, 5);
        Due.is("that of the least number at first", h.looksAt(2), 0);
        Due.is("the one ahead of this", h.look(2, 1), 0);
        Due.is("the one ahead of this, the same", h.look(2, 1), 1);
        Due.outOfBounds("no such window", () -> h.look(2, 3));
        Due.outOfBounds("no such window", () -> h.look(2, -1));
        Due.outOfBounds("no such window", () -> h.look(2, 4));
        Due.is("as before", h.looksAt(2), 1);
    }

    private static void asItComes() {
        Panehouse h = Edge.fed(6, 2, "abcdefgh");
        h.redraw(0);
        h.detach(0);
        Due.is("a client with an old number", h.attach(6, 3), 0);
        Due.is("plain cells as it comes", Edge.shown(h, 0, 3, 6), "....../....../......");
        Due.is("plain cells as it comes", h.shownMark(0, 2, 0), 0);
        Due.noSuchElement("no cursor as it comes", () -> h.shownCursor(0, true));
        Due.is("all of them change", h.redraw(0), 8 + 6);
    }

    private static void asItsSizeIsTold() {
        Panehouse h = Edge.fed(6, 2, "abcdefgh");
        h.redraw(0);
        Due.is("also the same", h.resize(0, 6, 3), 6);
        Due.is("plain cells", Edge.shown(h, 0, 3, 6), "....../....../......");
        Due.noSuchElement("no cursor", () -> h.shownCursor(0, false));
        Due.is("all of them change", h.redraw(0), 14);
        h.resize(0, 4, 2);
        Due.is("a smaller one", Edge.shown(h, 0, 2, 4), "..../....");
        h.redraw(0);
        h.resize(0, 6, 3);
        Due.is("a greater one", Edge.shown(h, 0, 3, 6), "....../....../......");
        h.attach(6, 3);
        h.redraw(0);
        h.resize(1, 5, 3);
        Due.is("not as another one's size is told", Edge.shown(h, 0, 3, 6), "abcdef/gh..../0*....");
    }

    private static void shownPlaces() {
        Panehouse h = Bytes.house(6, 2);
        int[][] wrong = {{0, -1, 0}, {0, 3, 0}, {0, 0, -1}, {0, 0, 6}, {1, 0, 0}, {-1, 0, 0}, {4, 0, 0},
            {0, Integer.MIN_VALUE, 0}, {0, 0, Integer.MAX_VALUE}};
        for (int[] place : wrong) {
            Due.outOfBounds("no such client, row or column", () -> h.shown(place[0], place[1], place[2]));
            Due.outOfBounds("no such client, row or column", () -> h.shownMark(place[0], place[1], place[2]));
        }
        Due.is("the last one", h.shown(0, 2, 5), ' ');
        Due.is("the last one", h.shownMark(0, 2, 5), 0);
        h.resize(0, 4, 2);
        Due.outOfBounds("there was such a row", () -> h.shown(0, 2, 0));
        Due.outOfBounds("there was such a column", () -> h.shown(0, 0, 4));
    }

    private static void bars() {
        String[] due = {"0.1*", "0.1*2", "0.1*2.", "0.1*2.3", "0.1*2.3.", "0.1*2.3.."};
        for (int i = 0; i < due.length; i++) {
            Panehouse h = Bytes.house(4 + i, 1);
            h.window();
            h.window();
            h.window();
            h.look(0, 1);
            h.redraw(0);
            Due.is("its number and '*', or a blank, as far as they go, and blanks", Bytes.shown(h, 0, 1, 4 + i),
                    due[i]);
            for (int column = 0; column < 4 + i; column++) {
                Due.is("all turned", h.shownMark(0, 1, column), 4);
            }
        }
        Panehouse h = Bytes.house(6, 1);
        h.window();
        h.redraw(0);
        Due.is("two windows", Bytes.shown(h, 0, 1, 6), "0*1...");
        h.close(0);
        Due.is("one goes", h.redraw(0), 2);
        Due.is("one window, not the first one", Bytes.shown(h, 0, 1, 6), "1*....");
    }

    private static void smallest() {
        Panehouse h = Edge.fed(4, 1, "~[4mabcde");
        Due.is("one row of cells", h.redraw(0), 5);
        Due.is("one row of cells", Edge.shown(h, 0, 2, 4), "e.../0*..");
        Due.is("with its mark", h.shownMark(0, 0, 0), 2);
        Due.is("its cursor", h.shownCursor(0, true) * 10 + h.shownCursor(0, false), 1);
    }

    private static void windowsThatAreGreater() {
        Panehouse h = Edge.fed(4, 1, "ab");
        h.split(0, true, 5);
        h.split(1, false, 5);
        Bytes.feed(h, 1, "cd");
        Bytes.feed(h, 2, "ef");
        Due.is("what lies beyond does not count", h.redraw(0), 8);
        Due.is("as far as the client has", Edge.shown(h, 0, 2, 4), "ab|c/0*..");
        h.resize(0, 5, 4);
        h.redraw(0);
        Due.is("all of it", Edge.shown(h, 0, 4, 5), "ab|cd/..|--/..|ef/0*...");
    }

    private static void windowsThatAreLess() {
        Panehouse h = Edge.fed(8, 4, "~[7mabcdefgh");
        h.attach(5, 3);
        h.redraw(0);
        Due.is("and plain cells beyond", Edge.shown(h, 0, 5, 8), "abcde.../fgh...../......../......../0*......");
        Due.is("with the mark", h.shownMark(0, 0, 4), 4);
        Due.is("plain beyond", h.shownMark(0, 0, 5) + h.shownMark(0, 2, 0), 0);
        h.detach(1);
        Due.is("the cells that are others", h.redraw(0), 3 + 3);
    }

    /** What was seen of other clients, sizes and panes must not stay. */
    private static void whatIsGone() {
        Panehouse h = Edge.fed(8, 4, "abcdefghijklmnopqrstuvwxyz012345");
        h.redraw(0);
        h.attach(5, 3);
        h.redraw(1);
        h.redraw(0);
        String rows = Edge.shown(h, 0, 5, 8);
        Due.is("plain cells beyond", rows.substring(5, 8) + rows.substring(17), ".../......../......../0*......");
    }

    private static void panesThatAreGone() {
        Panehouse h = Bytes.house(8, 4);
        h.split(0, true, 5);
        h.split(1, true, 5);
        Bytes.feed(h, 1, "~[2Jzzzz");
        Bytes.feed(h, 2, "~[2Jyyyy");
        h.redraw(0);
        Due.is("three panes", Bytes.shown(h, 0, 0, 8), "..|zz|yy");
        h.close(1);
        h.redraw(0);
        Due.is("one is closed", Edge.shown(h, 0, 5, 8), "...|yyyy/...|..../...|..../...|..../0*......");
        h.close(2);
        h.redraw(0);
        Due.is("two are closed", Edge.shown(h, 0, 5, 8), "......../......../......../......../0*......");
    }

    private static void borders() {
        Panehouse h = Edge.fed(11, 5, "~[7m");
        h.split(0, true, 5);
        h.split(0, false, 5);
        h.split(1, false, 2);
        h.split(3, true, 5);
        h.redraw(0);
        Due.is("borders", Edge.shown(h, 0, 6, 11),
                ".....|...../.....|-----/-----|..|../.....|..|../.....|..|../0*.........");
        Due.is("with the mark 0", h.shownMark(0, 0, 5) + h.shownMark(0, 1, 6) + h.shownMark(0, 2, 0), 0);
        h.zoom(0);
        h.redraw(0);
        Due.is("none if it is zoomed", Edge.shown(h, 0, 6, 11),
                ".........../.........../.........../.........../.........../0*.........");
    }

    private static void changedCells() {
        Panehouse h = Edge.fed(6, 2, "ab");
        Due.is("from plain cells", h.redraw(0), 2 + 6);
        Due.is("none", h.redraw(0), 0);
        Bytes.feed(h, 0, "\rcb");
        Due.is("another sign", h.redraw(0), 1);
        Bytes.feed(h, 0, "\r~[1mcb");
        Due.is("another mark", h.redraw(0), 2);
        Bytes.feed(h, 0, "\r~[4mx");
        Due.is("another sign and mark", h.redraw(0), 1);
        Bytes.feed(h, 0, "~[2;3H");
        Due.is("another place of the cursor alone", h.redraw(0), 0);
        Due.is("the cursor", h.shownCursor(0, true) * 10 + h.shownCursor(0, false), 12);
        Bytes.feed(h, 0, "y~[2;3H~[X");
        Due.is("and back, not shown", h.redraw(0), 0);
        Bytes.feed(h, 0, "~[2J");
        Due.is("plain again", h.redraw(0), 2);
        h.window();
        Due.is("the bar", h.redraw(0), 1);
        h.look(0, 1);
        Due.is("the bar", h.redraw(0), 2);
    }

    private static void cursorsOutside() {
        Panehouse h = Bytes.house(4, 1);
        h.split(0, true, 5);
        h.split(1, true, 5);
        h.choose(1);
        h.redraw(0);
        Due.is("in the last column that the client has", h.shownCursor(0, false), 3);
        Bytes.feed(h, 1, "x");
        h.redraw(0);
        Due.noSuchElement("in the first column that it has not", () -> h.shownCursor(0, false));
        h.choose(2);
        h.redraw(0);
        Due.noSuchElement("in a column far behind", () -> h.shownCursor(0, true));
        Panehouse rows = Bytes.house(4, 1);
        rows.split(0, false, 5);
        rows.split(1, false, 5);
        rows.resize(0, 4, 4);
        rows.choose(1);
        rows.redraw(0);
        Due.is("in the last row but one", rows.shownCursor(0, true), 2);
        rows.resize(0, 4, 3);
        rows.redraw(0);
        Due.noSuchElement("in a row but the last one", () -> rows.shownCursor(0, true));
        rows.choose(2);
        rows.redraw(0);
        Due.noSuchElement("in a row far below", () -> rows.shownCursor(0, true));
        rows.choose(0);
        rows.redraw(0);
        Due.is("in row 0", rows.shownCursor(0, true), 0);
    }

    private static long plus(long sum, long... next) {
        long all = sum;
        for (long one : next) {
            all = all * 31 + one;
        }
        return all;
    }

    private static void cursorsThatAreNotShown() {
        Panehouse h = Bytes.house(4, 1);
        long cells = plus(7, 32, 0, 32, 0, 32, 0, 32, 0, '0', 4, '*', 4, 32, 4, 32, 4);
        h.redraw(0);
        Due.is("the row and the column of the cursor", h.shownSum(0), plus(cells, 0, 0));
        Bytes.feed(h, 0, "~[?25l");
        Due.is("not redrawn", h.shownCursor(0, true), 0);
        h.redraw(0);
        Due.noSuchElement("if that shows it", () -> h.shownCursor(0, true));
        Due.is("-1 and -1 for none", h.shownSum(0), plus(cells, -1, -1));
        Bytes.feed(h, 0, "~[?25h   ");
        h.redraw(0);
        Due.is("it is shown again", h.shownSum(0), plus(cells, 0, 3));
        Due.is("sound", h.isSound(), true);
    }

    private static void cursorsOfTheActivePane() {
        Panehouse h = Edge.fed(9, 3, "abc~[?47h\n");
        h.split(0, true, 5);
        Bytes.feed(h, 1, "xyzw");
        h.redraw(0);
        Due.is("of the active pane, that waits", h.shownCursor(0, true) * 10 + h.shownCursor(0, false), 8);
        h.choose(0);
        h.redraw(0);
        Due.is("of the screen in use", h.shownCursor(0, true) * 10 + h.shownCursor(0, false), 10);
        h.zoom(0);
        Bytes.feed(h, 0, "~[9;9H");
        h.redraw(0);
        Due.is("of the zoomed one", h.shownCursor(0, true) * 10 + h.shownCursor(0, false), 28);
    }

    private static void bytes() {
        Panehouse h = Bytes.house(6, 2);
        for (int sign = 0; sign <= 255; sign++) {
            if (sign != 2) {
                Due.is("typed for a pane", h.key(0, sign), 't');
                Due.is("just that", h.typed(0), sign);
            }
        }
        for (int sign : new int[] {-1, 256, 258, Integer.MIN_VALUE, Integer.MAX_VALUE}) {
            Due.illegalArgument("0 to 255", () -> h.key(0, sign));
            Due.outOfBounds("no such client", () -> h.key(1, sign));
        }
        Due.noSuchElement("there is none", () -> h.typed(0));
        Due.is("none is kept", h.state(0, 'y'), 0);
    }

    private static void keepingBack() {
        Panehouse h = Bytes.house(6, 2);
        Due.is("2 is kept back", h.key(0, 2), 'k');
        Due.is("not typed", h.state(0, 'y'), 0);
        Due.illegalArgument("out of range", () -> h.key(0, 256));
        h.resize(0, 7, 3);
        h.look(0, 0);
        h.redraw(0);
        Due.is("2 types 2", h.key(0, 2), 't');
        Due.is("2 types 2", h.typed(0), 2);
        Due.is("no more kept back", h.key(0, 'z'), 't');
        Due.is("2 is kept back", h.key(0, 2), 'k');
        Due.is("with the next byte it is a command", h.key(0, 'q'), 'n');
        Due.is("no more kept back behind one that does nothing", h.key(0, 'q'), 't');
        h.key(0, 2);
        h.detach(0);
        h.attach(6, 2);
        Due.is("not by another client of that number", h.key(0, 'x'), 't');
    }

    private static char command(Panehouse h, int client, int sign) {
        Due.is("2 is kept back", h.key(client, 2), 'k');
        return h.key(client, sign);
    }

    private static void otherCommands() {
        Panehouse h = Bytes.house(6, 2);
        h.split(0, true, 5);
        String before = Edge.places(h, 0);
        for (int sign = 0; sign <= 255; sign++) {
            if ("%\"oxzncd".indexOf(sign) < 0 && sign != 2) {
                Due.is("others do nothing, " + sign, command(h, 0, sign), 'n');
            }
        }
        Due.is("nothing is typed", h.state(0, 'y') + h.state(1, 'y'), 0);
        Due.is("nothing is changed", Edge.places(h, 0) + h.active(0) + h.windows(), before + "11");
    }

    private static void splitCommands() {
        Panehouse h = Bytes.house(21, 9);
        Due.is("'%' splits beside", command(h, 0, '%'), 'c');
        Due.is("5 tenths", Edge.places(h, 0), "0:0,0,9,10 1:0,11,9,10");
        Due.is("'\"' over each other", command(h, 0, '"'), 'c');
        Due.is("the active pane, 5 tenths", Edge.places(h, 0), "0:0,0,9,10 1:0,11,4,10 2:5,11,4,10");
        Due.is("the new one is active", h.active(0), 2);
        Due.is("its share", h.share(2, 5) * 10 + h.share(0, 5), 55);
        for (int i = 3; i < 8; i++) {
            Due.is("up to 8", command(h, 0, i % 2 == 0 ? '%' : '"'), 'c');
        }
        Due.is("what cannot be done does nothing", command(h, 0, '%'), 'n');
        Due.is("what cannot be done does nothing", command(h, 0, '"'), 'n');
        Due.is("8 panes", h.panes(0), 8);
        h.zoom(0);
        Due.is("what cannot be done ends no zoom", command(h, 0, '%'), 'n');
        Due.is("what cannot be done ends no zoom", h.zoom(0), false);
    }

    private static void nextPane() {
        Panehouse h = Bytes.house(20, 8);
        Due.is("of one pane", command(h, 0, 'o'), 'c');
        Due.is("of one pane", h.active(0), 0);
        h.split(0, true, 5);
        h.split(0, true, 5);
        int[] due = {1, 0, 2, 1};
        for (int pane : due) {
            Due.is("'o' makes the next one in order active", command(h, 0, 'o'), 'c');
            Due.is("the first one behind the last", h.active(0), pane);
        }
        h.window();
        h.split(3, true, 5);
        h.close(0);
        h.swap(2, 3);
        h.choose(2);
        h.choose(3);
        h.look(0, 1);
        Due.is("in a window without the pane 0", command(h, 0, 'o') + "" + h.active(1), "c4");
        Due.is("the first one behind the last", command(h, 0, 'o') + "" + h.active(1), "c2");
        Due.is("of its window alone", h.active(0), 3);
    }

    private static void closeCommand() {
        Panehouse h = Bytes.house(20, 8);
        Due.is("the only one of all cannot be closed", command(h, 0, 'x'), 'n');
        Due.is("it is there", h.panes(0), 1);
        h.split(0, true, 5);
        Due.is("'x' closes the active pane", command(h, 0, 'x'), 'c');
        Due.is("'x' closes the active pane", Edge.places(h, 0), "0:0,0,8,20");
        Due.is("it is not zoomed then", h.zoom(0), true);
        h.window();
        h.look(0, 1);
        Due.is("the only one of its window", command(h, 0, 'x'), 'c');
        Due.is("its window is closed", h.windows(), 1);
        Due.is("it looks at the least one", h.looksAt(0), 0);
        Due.is("the only one of all", command(h, 0, 'x'), 'n');
    }

    private static void zoomCommand() {
        Panehouse h = Bytes.house(20, 8);
        h.split(0, true, 5);
        h.window();
        Due.is("'z' zooms its window", command(h, 0, 'z'), 'c');
        Due.is("'z' zooms its window", h.place(1, 'w') * 100 + h.place(0, 'w'), 2009);
        Due.is("it looks at it still", h.looksAt(0), 0);
        Due.is("or ends that", command(h, 0, 'z'), 'c');
        Due.is("or ends that", h.place(1, 'w'), 10);
        Due.is("not the other window's", h.zoom(1), true);
    }

    private static void nextWindow() {
        Panehouse h = Bytes.house(20, 8);
        Due.is("of one window", command(h, 0, 'n') + "" + h.looksAt(0), "c0");
        h.window();
        h.window();
        h.window();
        for (int due : new int[] {1, 2, 3, 0, 1}) {
            Due.is("the next window by number, the least behind the greatest", command(h, 0, 'n') + "" + h.looksAt(0),
                    "c" + due);
        }
        h.close(2);
        h.close(0);
        for (int due : new int[] {3, 1, 3}) {
            Due.is("without those that are closed", command(h, 0, 'n') + "" + h.looksAt(0), "c" + due);
        }
        h.attach(10, 5);
        command(h, 1, 'n');
        Due.is("its size is that of its clients", h.size(3, true), 10);
        Due.is("of a client alone", h.looksAt(0) * 10 + h.looksAt(1), 33);
    }

    private static void windowCommand() {
        Panehouse h = Bytes.house(10, 4);
        Due.is("'c' makes a window", command(h, 0, 'c'), 'c');
        Due.is("and looks at it", h.looksAt(0), 1);
        Due.is("it has the client's size", Edge.places(h, 1), "1:0,0,4,10");
        command(h, 0, 'c');
        command(h, 0, 'c');
        Due.is("a fifth window", command(h, 0, 'c'), 'n');
        Due.is("it looks where it did", h.looksAt(0), 3);
        h.close(0);
        for (int i = 0; i < 5; i++) {
            h.split(1, false, 5);
        }
        Due.is("a ninth pane", command(h, 0, 'c'), 'n');
        Due.is("windows", h.windows(), 3);
        h.close(0);
        Due.is("the least that are free", command(h, 0, 'c'), 'c');
        Due.is("the least that are free", h.looksAt(0) * 10 + h.active(0), 0);
    }

    private static void leaveCommand() {
        Panehouse h = Bytes.house(10, 4);
        h.attach(12, 6);
        Due.is("'d' lets the client go", command(h, 0, 'd'), 'c');
        Due.outOfBounds("it is gone", () -> h.key(0, 'x'));
        Due.is("the window's size", Edge.places(h, 0), "0:0,0,5,12");
        Due.is("its number is free", h.attach(9, 5), 0);
        Due.is("how many are left", h.detach(0), 1);
        Due.is("the last one, too", command(h, 1, 'd'), 'c');
        Due.outOfBounds("it is gone", () -> h.detach(1));
        Due.is("what it had", Edge.places(h, 0), "0:0,0,5,12");
    }

    private static void twoHundred() {
        Panehouse h = Bytes.house(20, 8);
        h.split(0, true, 5);
        for (int i = 0; i < 199; i++) {
            h.key(0, 3 + i);
        }
        Due.is("199", h.state(1, 'y'), 199);
        Due.is("2 types 2", command(h, 0, 2), 't');
        Due.is("200 bytes for each pane at most", h.state(1, 'y'), 200);
        Due.is("more are lost", h.key(0, 'x'), 't');
        Due.is("more are lost", command(h, 0, 2), 't');
        Due.is("200 bytes for each pane at most", h.state(1, 'y'), 200);
        h.choose(0);
        Due.is("for each pane", h.key(0, 'y'), 't');
        Due.is("for each pane", h.state(0, 'y') * 1000 + h.state(1, 'y'), 1200);
        for (int i = 0; i < 199; i++) {
            Due.is("the first byte", h.typed(1), 3 + i);
        }
        Due.is("the last one", h.typed(1), 2);
        Due.noSuchElement("there is none", () -> h.typed(1));
        Due.is("the other pane's", h.typed(0), 'y');
    }

    private static void whoTypes() {
        Panehouse h = Bytes.house(20, 8);
        h.window();
        h.attach(20, 9);
        h.look(1, 1);
        h.key(0, 'a');
        h.key(1, 'b');
        h.look(1, 0);
        h.key(1, 'c');
        h.key(0, 2);
        Due.is("2 is kept back of each client", h.key(1, 'z'), 't');
        Due.is("for the active pane of its window", "" + (char) h.typed(0) + (char) h.typed(0) + (char) h.typed(0)
                + (char) h.typed(1), "aczb");
        Due.is("kept back still", h.key(0, '%'), 'c');
        h.key(1, 'e');
        Due.is("for the one that is active then", h.state(0, 'y') * 10 + h.state(2, 'y'), 1);
    }
}
