/** The boundary cases of part 5 and of promises 1 to 14, each beside the sentence that names it. */
public final class WindowEdgesTest {
    private WindowEdgesTest() {
    }

    public static void main(String[] args) {
        numbersOfWindows();
        numbersOfPanes();
        mostPanes();
        needsOfOnePane();
        needsBeside();
        needsOver();
        sharesBeside();
        sharesOver();
        whatTheOtherNeeds();
        shareOfAPane();
        sizesOfClients();
        whatItHad();
        order();
        splitting();
        closing();
        closingActive();
        closingWindows();
        numbersAgain();
        swapping();
        swappingActive();
        endsOfZooms();
        zoomedSizes();
        atOnce();
        placesWhileZoomed();
        Due.end();
    }

    private static void numbersOfWindows() {
        Panehouse h = new Panehouse();
        Due.is("no windows at first", h.windows(), 0);
        for (int i = 0; i < 4; i++) {
            Due.is("the least number from 0 that is free", h.window(), i);
            Due.is("how many", h.windows(), i + 1);
        }
        Due.illegalState("at most 4 windows", h::window);
        for (int i = 0; i < 4; i++) {
            h.close(h.active(i));
            Due.is("one is free", h.windows(), 3);
            Due.is("it is the least number that is free", h.window(), i);
        }
        h.close(h.active(1));
        h.close(h.active(3));
        Due.is("the least of two", h.window(), 1);
        Due.is("then the other one", h.window(), 3);
        Due.illegalState("at most 4 windows", h::window);
    }

    private static void numbersOfPanes() {
        Panehouse h = new Panehouse();
        h.window();
        for (int i = 1; i < 8; i++) {
            Due.is("the least number from 0 that is free", h.split(0, i % 2 == 0, 5), i);
        }
        for (int i = 0; i < 8; i++) {
            int gone = i;
            int other = i == 0 ? 7 : 0;
            Due.is("how many there are then", h.close(gone), 7);
            Due.outOfBounds("no such pane", () -> h.choose(gone));
            Due.is("the least number that is free", h.split(other, true, 5), i);
        }
        h.close(2);
        h.close(6);
        Due.is("the least of two", h.window(), 1);
        Due.is("its pane", h.active(1), 2);
        Due.is("then the other one", h.split(2, true, 5), 6);
    }

    private static void mostPanes() {
        Panehouse h = new Panehouse();
        h.window();
        h.window();
        h.window();
        for (int i = 3; i < 7; i++) {
            h.split(i % 3, true, 5);
        }
        Due.is("an eighth pane", h.window(), 3);
        Due.is("it is the pane 7", h.active(3), 7);
        Due.illegalState("at most 8 panes", () -> h.split(7, true, 5));
        h.close(7);
        Due.is("an eighth pane", h.split(0, true, 5), 7);
        Due.illegalState("8 panes, though a window is free", h::window);
        Due.is("windows", h.windows(), 3);
        Due.is("mean", h.meanPanes(), 8.0 / 3.0);
    }

    private static void needsOfOnePane() {
        Panehouse h = new Panehouse();
        h.window();
        Due.is("20 and 8 at first", Edge.places(h, 0), "0:0,0,8,20");
        h.attach(4, 2);
        Due.is("the least client", Edge.places(h, 0), "0:0,0,1,4");
    }

    private static void needsBeside() {
        Panehouse h = Bytes.house(4, 1);
        for (int i = 1; i < 8; i++) {
            h.split(i - 1, true, 5);
            Due.is("the columns of both and 1", h.size(0, true), 3 * i + 2);
            Due.is("the greater number of rows", h.size(0, false), 1);
        }
        Due.is("2 columns each", Edge.places(h, 0), "0:0,0,1,2 1:0,3,1,2 2:0,6,1,2 3:0,9,1,2 4:0,12,1,2 5:0,15,1,2"
                + " 6:0,18,1,2 7:0,21,1,2");
        h.resize(0, 23, 2);
        Due.is("just as many as it needs", h.size(0, true), 23);
        h.resize(0, 22, 2);
        Due.is("less than it needs", h.size(0, true), 23);
        h.resize(0, 24, 2);
        Due.is("more than it needs", h.size(0, true), 24);
    }

    private static void needsOver() {
        Panehouse h = Bytes.house(4, 1);
        for (int i = 1; i < 8; i++) {
            h.split(0, false, 5);
            Due.is("the rows of both and 1", h.size(0, false), 2 * i + 1);
            Due.is("the greater number of columns", h.size(0, true), 4);
        }
        Due.is("1 row each", Edge.places(h, 0), "0:0,0,1,4 7:2,0,1,4 6:4,0,1,4 5:6,0,1,4 4:8,0,1,4 3:10,0,1,4"
                + " 2:12,0,1,4 1:14,0,1,4");
        h.resize(0, 4, 16);
        Due.is("just as many as it needs", h.size(0, false), 15);
        h.resize(0, 4, 15);
        Due.is("less than it needs", h.size(0, false), 15);
        h.resize(0, 4, 17);
        Due.is("more than it needs", h.size(0, false), 16);
        Panehouse both = Bytes.house(4, 1);
        both.split(0, true, 5);
        both.split(0, false, 5);
        Due.is("the greater number, of the first part", both.size(0, false) * 100 + both.size(0, true), 305);
        both.split(1, false, 5);
        both.split(1, false, 5);
        Due.is("the greater number, of the other part", both.size(0, false) * 100 + both.size(0, true), 505);
    }

    private static void sharesBeside() {
        int[] sizes = {5, 6, 7, 20, 21, 60};
        int[][] due = {{2, 2, 2, 2, 2, 2, 2, 2, 2}, {2, 2, 2, 2, 2, 3, 3, 3, 3}, {2, 2, 2, 2, 3, 3, 4, 4, 4},
            {2, 3, 5, 7, 9, 11, 13, 15, 17}, {2, 4, 6, 8, 10, 12, 14, 16, 18}, {5, 11, 17, 23, 29, 35, 41, 47, 53}};
        for (int i = 0; i < sizes.length; i++) {
            Panehouse h = Bytes.house(sizes[i], 1);
            h.split(0, true, 5);
            for (int share = 1; share <= 9; share++) {
                h.share(0, share);
                int wide = due[i][share - 1];
                Due.is("the share, cut, at least what it needs, at most what the other one does not need",
                        Edge.places(h, 0), "0:0,0,1," + wide + " 1:0," + (wide + 1) + ",1," + (sizes[i] - 1 - wide));
            }
        }
    }

    private static void sharesOver() {
        int[] sizes = {3, 4, 5, 8, 11, 23};
        int[][] due = {{1, 1, 1, 1, 1, 1, 1, 1, 1}, {1, 1, 1, 1, 1, 1, 2, 2, 2}, {1, 1, 1, 1, 2, 2, 2, 3, 3},
            {1, 1, 2, 2, 3, 4, 4, 5, 6}, {1, 2, 3, 4, 5, 6, 7, 8, 9}, {2, 4, 6, 8, 11, 13, 15, 17, 19}};
        for (int i = 0; i < sizes.length; i++) {
            Panehouse h = Bytes.house(4, sizes[i]);
            h.split(0, false, 5);
            for (int share = 1; share <= 9; share++) {
                h.share(1, share);
                int high = due[i][share - 1];
                Due.is("over each other likewise with rows", Edge.places(h, 0),
                        "0:0,0," + high + ",4 1:" + (high + 1) + ",0," + (sizes[i] - 1 - high) + ",4");
            }
        }
    }

    private static void whatTheOtherNeeds() {
        Panehouse h = Bytes.house(20, 8);
        h.split(0, true, 9);
        h.split(1, true, 5);
        Due.is("at most what the other one does not need", Edge.places(h, 0), "0:0,0,8,14 1:0,15,8,2 2:0,18,8,2");
        h.swap(0, 1);
        h.share(1, 1);
        h.close(2);
        h.split(1, true, 5);
        Due.is("at least what it needs", Edge.places(h, 0), "1:0,0,8,2 2:0,3,8,2 0:0,6,8,14");
        Panehouse over = Bytes.house(20, 8);
        over.split(0, false, 9);
        over.split(1, false, 5);
        over.split(2, false, 5);
        Due.is("over each other", Edge.places(over, 0), "0:0,0,2,20 1:3,0,1,20 2:5,0,1,20 3:7,0,1,20");
        over.share(0, 1);
        Due.is("over each other", Edge.places(over, 0), "0:0,0,1,20 1:2,0,2,20 2:5,0,1,20 3:7,0,1,20");
    }

    private static void shareOfAPane() {
        Panehouse h = new Panehouse();
        h.window();
        Due.unsupported("it is the only pane of its window", () -> h.share(0, 5));
        h.window();
        h.split(1, true, 1);
        Due.unsupported("it is the only pane of its window, though not of all", () -> h.share(0, 5));
        Due.is("the share ahead of this", h.share(2, 9), 1);
        Due.is("the share ahead of this", h.share(1, 9), 9);
        h.split(2, false, 3);
        Due.is("of the two parts of which it is one", h.share(2, 4), 3);
        Due.is("not of the parts above", h.share(1, 1), 9);
        Due.is("of the two parts of which it is one", h.share(3, 4), 4);
        h.close(3);
        Due.is("of the parts above then", h.share(2, 5), 1);
        h.close(1);
        Due.unsupported("it is the only one again", () -> h.share(2, 5));
        Due.illegalArgument("a number out of range", () -> h.share(2, 0));
        Due.illegalArgument("a number out of range", () -> h.share(2, 10));
    }

    private static void sizesOfClients() {
        Panehouse h = new Panehouse();
        h.window();
        h.attach(10, 24);
        Due.is("the rows less 1", h.size(0, false), 23);
        h.attach(60, 6);
        Due.is("the least of the columns, and of the rows", Edge.places(h, 0), "0:0,0,5,10");
        h.attach(10, 6);
        Due.is("the same", Edge.places(h, 0), "0:0,0,5,10");
        h.attach(9, 7);
        Due.is("the least of the columns", Edge.places(h, 0), "0:0,0,5,9");
        h.resize(3, 4, 2);
        Due.is("the least of all", Edge.places(h, 0), "0:0,0,1,4");
        h.detach(3);
        h.detach(1);
        h.detach(2);
        Due.is("the one that is left", Edge.places(h, 0), "0:0,0,23,10");
        h.window();
        Due.is("20 and 8 at first, if none looks", Edge.places(h, 1), "1:0,0,8,20");
        h.look(0, 1);
        Due.is("of the clients that look at it", Edge.places(h, 1), "1:0,0,23,10");
        Due.is("what it had, if none does", Edge.places(h, 0), "0:0,0,23,10");
    }

    private static void whatItHad() {
        Panehouse h = new Panehouse();
        h.window();
        h.attach(7, 4);
        h.detach(0);
        h.split(0, true, 5);
        Due.is("what it had is enough", h.size(0, true), 7);
        h.split(0, true, 5);
        Due.is("what it had is not enough", h.size(0, true), 8);
        Due.is("what it had is enough", h.size(0, false), 3);
        h.split(0, false, 5);
        Due.is("what it had is just enough", h.size(0, false), 3);
        h.split(0, false, 5);
        Due.is("what it had is not enough", h.size(0, false), 5);
        for (int pane = 1; pane < 5; pane++) {
            h.close(pane);
        }
        Due.is("what it had, though it needs less", Edge.places(h, 0), "0:0,0,5,8");
    }

    private static void order() {
        Panehouse h = new Panehouse();
        h.window();
        h.split(0, true, 5);
        h.split(0, false, 5);
        h.split(1, false, 5);
        StringBuilder text = new StringBuilder();
        for (int i = 0; i < 4; i++) {
            text.append(h.paneAt(0, i));
        }
        Due.is("the first part first", text.toString(), "0213");
        Due.noSuchElement("it has not so many", () -> h.paneAt(0, 4));
        Due.noSuchElement("it has not so many", () -> h.paneAt(0, Integer.MAX_VALUE));
        Due.noSuchElement("from 0", () -> h.paneAt(0, -1));
        Due.noSuchElement("from 0", () -> h.paneAt(0, Integer.MIN_VALUE));
        Due.is("how many", h.panes(0), 4);
        h.close(2);
        Due.noSuchElement("it has not so many any more", () -> h.paneAt(0, 3));
        h.close(1);
        Due.is("the last one", h.paneAt(0, 1), 3);
        Due.noSuchElement("it has not so many any more", () -> h.paneAt(0, 2));
    }

    private static void splitting() {
        Panehouse h = new Panehouse();
        h.window();
        h.split(0, true, 1);
        h.choose(0);
        Due.is("also one that is not active", h.split(1, false, 9), 2);
        Due.is("the new one is active then", h.active(0), 2);
        Due.is("itself first, a new one behind", Edge.places(h, 0), "0:0,0,8,2 1:0,3,6,17 2:7,3,1,17");
        Panehouse deep = Bytes.house(4, 1);
        for (int i = 0; i < 7; i++) {
            deep.split(i, i % 2 == 0, 5);
        }
        Due.is("seven parts in each other", Edge.places(deep, 0), "0:0,0,7,2 1:0,3,1,11 2:2,3,5,2 3:2,6,1,8 4:4,6,3,2"
                + " 5:4,9,1,5 6:6,9,1,2 7:6,12,1,2");
        Due.is("sound", deep.isSound(), true);
    }

    private static void closing() {
        Panehouse h = new Panehouse();
        h.window();
        Due.illegalState("it is the only one of all", () -> h.close(0));
        h.window();
        Due.is("the only one of its window, but not of all", h.close(0), 1);
        Due.illegalState("it is the only one of all", () -> h.close(1));
        Due.is("the window is there", h.windows(), 1);
        h.split(1, true, 5);
        h.split(0, true, 5);
        h.split(0, true, 5);
        Due.is("places", Edge.places(h, 1), "1:0,0,8,9 0:0,10,8,2 3:0,13,8,2 2:0,16,8,4");
        h.close(3);
        Due.is("the other part takes its place", Edge.places(h, 1), "1:0,0,8,9 0:0,10,8,4 2:0,15,8,5");
        h.close(1);
        Due.is("a part of two, too", Edge.places(h, 1), "0:0,0,8,9 2:0,10,8,10");
    }

    private static void closingActive() {
        Panehouse h = new Panehouse();
        h.window();
        h.split(0, true, 5);
        h.split(0, false, 5);
        h.split(0, true, 5);
        h.choose(1);
        h.close(1);
        Due.is("the first pane of the other part, two parts deep", h.active(0), 0);
        h.choose(2);
        h.close(2);
        Due.is("the first pane of the other part, which is ahead", h.active(0), 0);
        h.close(0);
        Due.is("the other part is one pane", h.active(0), 3);
        h.split(3, true, 5);
        h.split(0, true, 5);
        h.choose(0);
        h.close(3);
        Due.is("if it was not active, the active one stays", h.active(0), 0);
        h.choose(1);
        h.close(0);
        Due.is("with a greater number, too", h.active(0), 1);
        Panehouse less = new Panehouse();
        less.window();
        less.split(0, true, 5);
        less.split(0, true, 5);
        less.choose(1);
        less.close(2);
        Due.is("with a number less than the closed one's", less.active(0), 1);
        less.split(0, true, 5);
        less.choose(0);
        less.close(2);
        Due.is("with a number less than the closed one's", less.active(0), 0);
    }

    private static void closingWindows() {
        Panehouse h = new Panehouse();
        h.window();
        h.window();
        h.window();
        h.attach(10, 5);
        h.attach(12, 7);
        h.attach(14, 9);
        h.look(0, 1);
        h.look(1, 2);
        Due.is("closing the only pane of a window closes it", h.close(1), 2);
        Due.outOfBounds("no such window", () -> h.size(1, true));
        Due.is("clients that looked at it look at the least", h.looksAt(0), 0);
        Due.is("those that did not do not", h.looksAt(1), 2);
        Due.is("its size is that of its clients at once", Edge.places(h, 0), "0:0,0,4,10");
        h.close(0);
        Due.is("the least one is another one then", h.looksAt(0) * 100 + h.looksAt(1) * 10 + h.looksAt(2), 222);
        Due.is("its size is that of its clients at once", Edge.places(h, 2), "2:0,0,4,10");
    }

    /** A pane or window with a number that was free again is as any new one. */
    private static void numbersAgain() {
        Panehouse h = new Panehouse();
        h.window();
        h.window();
        long plain = h.checksum(1);
        h.attach(60, 24);
        h.look(0, 1);
        Bytes.feed(h, 1, "a\n~[24S~[5n\u0007~[31;4m~[9;9H~7~[2;9r~[4h~[?7;25l~[?47hxyz~[?6h~[99;99H~[");
        h.key(0, 'k');
        h.zoom(1);
        h.close(1);
        Due.is("the same number", h.window(), 1);
        Due.is("20 and 8 at first", Edge.places(h, 1), "1:0,0,8,20");
        Due.is("all cells are plain, none scrolled away, the cursor at 0 and 0", h.checksum(1), plain);
        StringBuilder all = new StringBuilder();
        for (char what : "rcwmtbaiovskpy".toCharArray()) {
            all.append(h.state(1, what));
        }
        Due.is("region, mark, modes, bells, typed bytes", all.toString(), "00000700011000");
        Due.noSuchElement("no answers", () -> h.answer(1));
        Due.is("it is sound", h.isSound(), true);
        Due.is("it is not zoomed", h.zoom(1), true);
        Bytes.feed(h, 1, "C~8");
        Due.is("no sequence is begun, nothing is saved", Bytes.cursor(h, 1) + h.cell(1, 0, 0) + h.state(1, 'm'),
                "0,0C0");
    }

    private static void swapping() {
        Panehouse h = new Panehouse();
        h.window();
        for (int i = 1; i < 8; i++) {
            h.split(i - 1, true, 5);
        }
        Due.is("the first and the last one", h.swap(0, 7), 6);
        Due.is("they have each other's place", h.paneAt(0, 0) * 10 + h.paneAt(0, 7), 70);
        Due.is("and back", h.swap(0, 7), 6);
        Due.is("two beside each other", h.swap(3, 4), 0);
        Due.is("the other way round", h.swap(3, 4), 0);
        Due.is("one between", h.swap(4, 2), 1);
        Due.illegalArgument("both are the same", () -> h.swap(7, 7));
        Due.outOfBounds("no such pane, both the same", () -> h.swap(8, 8));
        Due.outOfBounds("no such pane, the first one", () -> h.swap(8, 0));
        Due.outOfBounds("no such pane, the other one", () -> h.swap(0, -1));
        Due.is("how many between, in their order", h.swap(2, 0), 3);
        Panehouse two = new Panehouse();
        two.window();
        two.window();
        Due.is("-1 if they are of two windows", two.swap(1, 0), -1);
        Due.is("also of two windows", two.paneAt(0, 0) * 10 + two.paneAt(1, 0), 10);
        two.attach(10, 5);
        two.swap(0, 1);
        Due.is("each has the other's size", Edge.places(two, 0) + " " + Edge.places(two, 1), "0:0,0,4,10 1:0,0,8,20");
    }

    private static void swappingActive() {
        Panehouse h = new Panehouse();
        h.window();
        h.split(0, true, 5);
        h.split(1, true, 5);
        h.choose(1);
        h.swap(0, 2);
        Due.is("neither is active", h.active(0), 1);
        h.swap(1, 2);
        Due.is("the first one is active", h.active(0), 2);
        h.swap(0, 2);
        Due.is("the other one is active", h.active(0), 0);
        h.window();
        h.split(3, true, 5);
        h.swap(0, 4);
        Due.is("both are active, of two windows", h.active(0) * 10 + h.active(1), 40);
        h.swap(3, 4);
        Due.is("the other one is active, of two windows", h.active(0) * 10 + h.active(1), 30);
        h.swap(1, 0);
        Due.is("the other one is active, of two windows", h.active(0) * 10 + h.active(1), 31);
        h.swap(2, 4);
        Due.is("neither is active, of two windows", h.active(0) * 10 + h.active(1), 31);
    }

    private static Panehouse zoomed() {
        Panehouse h = new Panehouse();
        h.window();
        h.split(0, true, 5);
        h.split(0, true, 5);
        h.window();
        h.zoom(0);
        h.zoom(1);
        return h;
    }

    private static void ends(String sentence, Panehouse h, boolean isEnded, boolean isOtherEnded) {
        Due.is(sentence, h.zoom(0), isEnded);
        Due.is(sentence + ", the other window's", h.zoom(1), isOtherEnded);
    }

    private static void endsOfZooms() {
        Panehouse h = zoomed();
        Due.is("whether it is zoomed then", h.zoom(0), false);
        Due.is("whether it is zoomed then", h.zoom(0), true);
        ends("nothing", h, false, false);
        Panehouse split = zoomed();
        split.split(1, false, 5);
        ends("splitting ends a zoom", split, true, false);
        Panehouse close = zoomed();
        close.close(1);
        ends("closing ends a zoom, of one that is not active, too", close, true, false);
        Panehouse swap = zoomed();
        swap.swap(0, 1);
        ends("swapping ends a zoom, of those that are not active, too", swap, true, false);
        Panehouse both = zoomed();
        both.swap(0, 3);
        ends("swapping of two windows", both, true, true);
        Panehouse choose = zoomed();
        choose.choose(0);
        ends("choosing another active pane ends a zoom", choose, true, false);
        Panehouse same = zoomed();
        same.choose(2);
        ends("choosing the same does not", same, false, false);
        Panehouse share = zoomed();
        share.share(0, 2);
        share.attach(9, 9);
        share.look(0, 1);
        ends("telling a share, and clients, do not", share, false, false);
    }

    private static void zoomedSizes() {
        Panehouse h = new Panehouse();
        h.window();
        h.split(0, true, 5);
        h.split(0, false, 5);
        h.zoom(0);
        Due.is("the active one has its whole size, the others theirs", Edge.places(h, 0),
                "0:0,0,3,9 2:0,0,8,20 1:0,10,8,10");
        Due.outOfBounds("no row behind it", () -> h.cell(2, 8, 0));
        Due.is("its last cell", h.cell(2, 7, 19), ' ');
        h.attach(6, 4);
        Due.is("of the client's size", Edge.places(h, 0), "0:0,0,1,2 2:0,0,3,6 1:0,3,3,3");
        h.resize(0, 4, 2);
        Due.is("of what the window needs", Edge.places(h, 0), "0:0,0,1,2 2:0,0,3,5 1:0,3,3,2");
        Due.is("not zoomed any more", h.zoom(0), false);
        Due.is("its own size", Edge.places(h, 0), "0:0,0,1,2 2:2,0,1,2 1:0,3,3,2");
    }

    private static void cellsFit(String call, Panehouse h) {
        for (int window = 0; window < 2; window++) {
            for (int i = 0; i < h.panes(window); i++) {
                int pane = h.paneAt(window, i);
                int high = h.place(pane, 'h');
                int wide = h.place(pane, 'w');
                Due.is(call + ", pane " + pane, h.cell(pane, high - 1, wide - 1), ' ');
                Due.is(call + ", pane " + pane, h.state(pane, 'b'), high - 1);
                Due.outOfBounds(call + ", pane " + pane, () -> h.cell(pane, high, 0));
                Due.outOfBounds(call + ", pane " + pane, () -> h.cell(pane, 0, wide));
            }
        }
        Due.is(call, h.isSound(), true);
    }

    private static void atOnce() {
        Panehouse h = new Panehouse();
        h.window();
        h.window();
        cellsFit("window", h);
        h.split(0, true, 3);
        cellsFit("split", h);
        h.split(1, false, 3);
        cellsFit("split", h);
        h.share(0, 8);
        cellsFit("share", h);
        h.zoom(0);
        cellsFit("zoom", h);
        h.choose(1);
        cellsFit("choose", h);
        h.attach(15, 7);
        cellsFit("attach", h);
        h.resize(0, 30, 20);
        cellsFit("resize", h);
        h.look(0, 1);
        cellsFit("look", h);
        h.attach(12, 12);
        h.look(1, 1);
        h.detach(1);
        cellsFit("detach", h);
        h.swap(0, 1);
        cellsFit("swap", h);
        h.close(0);
        cellsFit("close", h);
        for (char command : "%\"zozxnzn%d".toCharArray()) {
            h.key(0, 2);
            h.key(0, command);
            cellsFit("key " + command, h);
        }
    }

    private static void placesWhileZoomed() {
        Panehouse h = new Panehouse();
        h.window();
        h.split(0, false, 5);
        h.zoom(0);
        Due.is("while another one is zoomed, as if none was", "" + h.place(0, 'r') + h.place(0, 'h'), "03");
        Due.is("the zoomed one", "" + h.place(1, 'r') + h.place(1, 'c') + h.place(1, 'h') + h.place(1, 'w'), "00820");
        h.zoom(0);
        Due.is("not zoomed", "" + h.place(1, 'r') + h.place(1, 'c') + h.place(1, 'h') + h.place(1, 'w'), "40420");
        h.choose(0);
        h.zoom(0);
        Due.is("the other one is behind", "" + h.place(1, 'r') + h.place(1, 'c') + h.place(1, 'h') + h.place(1, 'w'),
                "40420");
        Due.is("it has its own size", Bytes.cursor(h, 1) + h.state(1, 'b'), "0,03");
        h.zoom(0);
        h.split(0, true, 5);
        h.choose(1);
        h.zoom(0);
        Due.is("those beside it have their columns", "" + h.place(2, 'c') + h.place(2, 'w') + h.place(1, 'c'), "10100");
        for (int letter = 0; letter < 300; letter++) {
            char what = (char) letter;
            if ("rchw".indexOf(what) < 0) {
                Due.illegalArgument("there is no such letter", () -> h.place(0, what));
            }
        }
    }
}
