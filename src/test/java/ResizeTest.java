/** Part 4, as promises 18 to 21 and 24 show it: rows that are parted anew as a pane gets another size. */
public final class ResizeTest {
    private ResizeTest() {
    }

    public static void main(String[] args) {
        wrappedRows();
        waitingCursor();
        cursorBehindText();
        rowsComeBack();
        rowsAreLost();
        atMostForty();
        plainCells();
        rowsThatGoOn();
        secondScreen();
        regionAndSameSize();
        oneSizeAfterAnother();
        Due.end();
    }

    private static void is(String what, Panehouse h, String screen, String onward, String cursor, int kept) {
        Due.is(what, Bytes.screen(h, 0), screen);
        Due.is(what + ", going on", Bytes.onward(h, 0), onward);
        Due.is(what + ", cursor", Bytes.cursor(h, 0), cursor);
        Due.is(what + ", kept", h.state(0, 'p'), kept);
        Due.is(what + ", sound", h.isSound(), true);
    }

    private static void wrappedRows() {
        Panehouse h = Bytes.house(6, 3);
        Bytes.feed(h, 0, "abcdefgh\r\nij");
        is("before", h, "abcdef/gh..../ij....", "100", "2,2", 0);
        h.resize(0, 4, 4);
        is("narrower", h, "abcd/efgh/ij..", "100", "2,2", 0);
        h.resize(0, 10, 4);
        is("wider", h, "abcdefgh../ij......../..........", "000", "1,2", 0);
        h.resize(0, 5, 4);
        is("narrower", h, "abcde/fgh../ij...", "100", "2,2", 0);
    }

    private static void waitingCursor() {
        Panehouse h = Bytes.house(8, 3);
        Bytes.feed(h, 0, "abcdefgh");
        is("before", h, "abcdefgh/......../........", "000", "0,7w", 0);
        h.resize(0, 4, 4);
        is("at its cell, not waiting", h, "abcd/efgh/....", "100", "1,3", 0);
        Bytes.feed(h, 0, "x");
        h.resize(0, 10, 4);
        is("at its cell, not waiting", h, "abcdefgx../........../..........", "000", "0,7", 0);
        Panehouse blank = Bytes.house(4, 1);
        Bytes.feed(blank, 0, "abc ");
        blank.resize(0, 8, 2);
        is("its own blank", blank, "abc.....", "0", "0,3", 0);
    }

    private static void cursorBehindText() {
        Panehouse h = Bytes.house(8, 3);
        Bytes.feed(h, 0, "ab~[1;7H");
        h.resize(0, 4, 4);
        is("as many rows as its place needs", h, "ab../..../....", "100", "1,2", 0);
        h.resize(0, 6, 4);
        is("a row for its place", h, "ab..../....../......", "100", "1,0", 0);
        h.resize(0, 12, 4);
        is("its place in the line", h, "ab........../............/............", "000", "0,6", 0);
    }

    private static void rowsComeBack() {
        Panehouse h = Bytes.house(4, 2);
        Bytes.feed(h, 0, "abcdefghijkl");
        is("before", h, "efgh/ijkl", "10", "1,3w", 1);
        h.resize(0, 4, 5);
        is("higher", h, "abcd/efgh/ijkl/....", "1100", "2,3", 0);
        h.resize(0, 4, 2);
        is("one row", h, "ijkl", "0", "0,3", 2);
        Due.is("eldest", Bytes.row(h, 0, -2), "abcd");
        Due.is("goes on", h.goesOn(0, -1), true);
        h.resize(0, 6, 3);
        is("joined with those that scrolled away", h, "abcdef/ghijkl", "10", "1,5", 0);
        h.resize(0, 6, 2);
        h.resize(0, 20, 2);
        is("joined with those that scrolled away", h, "abcdefghijkl........", "0", "0,11", 0);
    }

    private static void rowsAreLost() {
        Panehouse h = Bytes.house(4, 4);
        Bytes.feed(h, 0, "a\r\nb\r\nc\r\nd~[2;1H");
        h.resize(0, 4, 3);
        is("none from the cursor's row on", h, "b.../c...", "00", "0,0", 1);
        h.resize(0, 4, 5);
        is("more are lost", h, "a.../b.../c.../....", "0000", "1,0", 0);
        Bytes.feed(h, 0, "~[1;1H");
        h.resize(0, 4, 2);
        is("the cursor in row 0", h, "a...", "0", "0,0", 0);

        Panehouse below = Bytes.house(4, 4);
        Bytes.feed(below, 0, "a\r\nb");
        below.resize(0, 4, 3);
        is("plain rows below are not of these", below, "a.../b...", "00", "1,1", 0);
        Bytes.feed(below, 0, "\r\n\n");
        is("scrolled", below, "..../....", "00", "1,0", 2);
        below.resize(0, 4, 4);
        is("plain ones ahead of the cursor are", below, "b.../..../....", "000", "2,0", 1);

        Panehouse onward = Bytes.house(4, 3);
        Bytes.feed(onward, 0, "abcdefghij~[1;2H");
        onward.resize(0, 4, 3);
        is("a row goes on though the next one is lost", onward, "abcd/efgh", "11", "0,1", 0);
    }

    private static void atMostForty() {
        Panehouse h = Bytes.house(8, 1);
        for (int i = 0; i < 45; i++) {
            Bytes.feed(h, 0, (char) ('A' + i % 26) + "234567" + i / 26 + "\r\n");
        }
        Due.is("kept", h.state(0, 'p'), 40);
        Due.is("eldest", Bytes.row(h, 0, -40), "F2345670");
        h.resize(0, 4, 2);
        Due.is("kept", h.state(0, 'p'), 40);
        Due.is("the eldest go", Bytes.row(h, 0, -40), "Z234");
        Due.is("goes on", h.goesOn(0, -40), true);
        Due.is("last one", Bytes.row(h, 0, -1), "5671");
        Due.is("does not go on", h.goesOn(0, -1), false);
        h.resize(0, 8, 2);
        Due.is("kept", h.state(0, 'p'), 20);
        Due.is("eldest", Bytes.row(h, 0, -20), "Z2345670");
    }

    private static void plainCells() {
        Panehouse h = Bytes.house(8, 3);
        Bytes.feed(h, 0, "abcd~[7m  ~[m\r\n");
        h.resize(0, 4, 3);
        is("blanks with a mark are not plain", h, "..../....", "00", "1,0", 1);
        Due.is("mark", h.mark(0, 0, 1), 4);
        Due.is("plain", h.mark(0, 0, 2), 0);
        Due.is("goes on", h.goesOn(0, -1), true);

        Panehouse inner = Bytes.house(4, 3);
        Bytes.feed(inner, 0, "abcdef~[1;1H~[3X~[3;1H");
        inner.resize(0, 8, 4);
        is("all cells of the rows but the last", inner, "...def../......../........", "000", "1,0", 0);
    }

    private static void rowsThatGoOn() {
        Panehouse h = Bytes.house(4, 2);
        Bytes.feed(h, 0, "abcdefghi~c");
        Due.is("a kept row goes on", h.goesOn(0, -1), true);
        h.resize(0, 8, 3);
        is("joined with the next one though that is plain", h, "abcd..../........", "00", "0,4", 0);

        Panehouse last = Bytes.house(4, 3);
        Bytes.feed(last, 0, "~[1;2r~[3;1Habcde");
        is("the last row goes on", last, "..../..../ebcd", "001", "2,1", 0);
        last.resize(0, 8, 4);
        is("there is no next one", last, "......../......../ebcd....", "000", "2,1", 0);
        Panehouse plain = Bytes.house(4, 3);
        Bytes.feed(plain, 0, "abcde~[2;1H~[2K~[1;1H");
        is("before", plain, "abcd/..../....", "100", "0,0", 0);
        plain.resize(0, 6, 4);
        is("the next one is not of the rows", plain, "abcd../....../......", "000", "0,0", 0);
    }

    private static void secondScreen() {
        Panehouse h = Bytes.house(6, 3);
        Bytes.feed(h, 0, "first~[?47habcdefghi");
        is("before", h, "abcdef/ghi.../......", "000", "1,3", 0);
        h.resize(0, 4, 3);
        is("loses rows and columns", h, "abcd/ghi.", "00", "1,3", 0);
        h.resize(0, 6, 2);
        is("its cursor as far as it can", h, "abcd..", "0", "0,3", 0);
        h.resize(0, 6, 4);
        is("gets plain ones", h, "abcd../....../......", "000", "0,3", 0);
        Bytes.feed(h, 0, "~[1;5Hxy");
        is("waiting", h, "abcdxy/....../......", "000", "0,5w", 0);
        h.resize(0, 5, 4);
        is("not waiting", h, "abcdx/...../.....", "000", "0,4", 0);
        Bytes.feed(h, 0, "~[?47l");
        is("the first one is as wide", h, "first/...../.....", "100", "1,0", 0);
        h.resize(0, 6, 4);
        is("the first one", h, "first./....../......", "000", "0,5", 0);
    }

    private static void regionAndSameSize() {
        Panehouse h = Bytes.house(4, 3);
        Bytes.feed(h, 0, "~[2;3rabcd");
        h.resize(0, 4, 4);
        Due.is("the same size changes nothing", Bytes.cursor(h, 0), "0,3w");
        Due.is("the same size changes nothing", h.state(0, 't') * 10 + h.state(0, 'b'), 12);
        h.resize(0, 4, 5);
        Due.is("the region is the whole screen", h.state(0, 't') * 10 + h.state(0, 'b'), 3);
        Due.is("not waiting", Bytes.cursor(h, 0), "0,3");
        Bytes.feed(h, 0, "~[1;31;4m~[?6h~[4h~[?7;25l~7");
        h.resize(0, 5, 4);
        String all = "";
        for (char what : "miovs".toCharArray()) {
            all += h.state(0, what) + " ";
        }
        Due.is("modes and mark stay", all, "11 1 1 0 0 ");
    }

    private static void oneSizeAfterAnother() {
        Panehouse h = new Panehouse();
        h.window();
        Bytes.feed(h, 0, "abcdefghijklmnopqrstuvwxyz");
        h.split(0, true, 5);
        is("split", h, "abcdefghi/jklmnopqr/stuvwxyz./........./........./........./........./.........", "11000000",
                "2,8", 0);
        Due.is("share", h.share(0, 1), 5);
        Due.is("two columns", h.place(0, 'w'), 2);
        Due.is("kept", h.state(0, 'p'), 6);
        Due.is("the place of the cursor is a row of its own", Bytes.screen(h, 0), "mn/op/qr/st/uv/wx/yz/..");
        Due.is("the cursor", Bytes.cursor(h, 0), "7,0");
        h.close(1);
        is("closed", h, "abcdefghijklmnopqrst/uvwxyz............../"
                + "..................../..................../..................../..................../"
                + "..................../....................", "10000000", "1,6", 0);
    }
}
