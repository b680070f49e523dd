/** The boundary cases of part 4, each beside the sentence that names it. */
public final class SizeEdgesTest {
    private SizeEdgesTest() {
    }

    public static void main(String[] args) {
        secondScreen();
        secondScreenOutOfUse();
        rowsOfTheScreen();
        joinedRows();
        rowsWithoutANextOne();
        lastCells();
        cursorInTheLine();
        atLeastOneRow();
        room();
        roomAgain();
        fromTheCursorOn();
        fortyRows();
        narrowest();
        region();
        sameSize();
        whatStays();
        Due.end();
    }

    /** A pane of a size that gets bytes, and then another size. */
    private static Panehouse resized(int columns, int rows, String bytes, int toColumns, int toRows) {
        Panehouse h = Edge.fed(columns, rows, bytes);
        h.resize(0, toColumns, toRows + 1);
        return h;
    }

    private static void is(String sentence, Panehouse h, String kept, String screen, String onward, String cursor) {
        Due.is(sentence + ", kept", Edge.kept(h, 0), kept);
        Due.is(sentence, Bytes.screen(h, 0), screen);
        Due.is(sentence + ", going on", Bytes.onward(h, 0), onward);
        Due.is(sentence + ", cursor", Bytes.cursor(h, 0), cursor);
        Due.is(sentence + ", sound", h.isSound(), true);
    }

    private static void secondScreen() {
        String two = "~[?47habcdefghijkl";
        is("it loses columns at its end", resized(6, 2, two, 5, 2), "", "abcde/ghijk", "00", "1,4");
        is("it loses rows at its end", resized(6, 2, two, 6, 1), "", "abcdef", "0", "0,5");
        is("or gets plain ones", resized(6, 2, two, 7, 3), "", "abcdef./ghijkl./.......", "000", "1,5");
        Panehouse h = resized(6, 2, two, 4, 1);
        h.resize(0, 6, 3);
        is("what it lost does not come again", h, "", "abcd../......", "00", "0,3");
        is("its cursor stays", resized(6, 3, "~[?47h~[2;4H", 4, 2), "", "..../....", "00", "1,3");
        is("its cursor stays as far as it can", resized(6, 3, "~[?47h~[3;5H", 4, 2), "", "..../....", "00", "1,3");
        is("not waiting", resized(4, 2, "~[?47habcd", 4, 3), "", "abcd/..../....", "000", "0,3");
        is("not waiting", resized(6, 2, "~[?47habcdef", 4, 2), "", "abcd/....", "00", "0,3");
    }

    private static void secondScreenOutOfUse() {
        Panehouse h = resized(6, 2, "~[?47habcdefgh~[1;6H~[?47l", 4, 1);
        long sum = 7 * 31;
        for (int one : new int[] {0, 32, 0, 32, 0, 32, 0, 32, 0, 0, 'a', 0, 'b', 0, 'c', 0, 'd', 0, 0, 0, 0}) {
            sum = sum * 31 + one;
        }
        Due.is("the second screen loses them out of use, too", h.checksum(0), sum);
        Due.is("its cursor is on it", h.isSound(), true);
        Panehouse other = resized(8, 2, "abcdefghij~[?47hxyz", 4, 3);
        Bytes.feed(other, 0, "~[?47l");
        is("the first one is parted out of use, too", other, "", "abcd/efgh/ij..", "110", "2,2");
    }

    private static void rowsOfTheScreen() {
        String last = "down to the last one that has a cell that is not plain, or the cursor";
        is(last, resized(4, 4, "a", 4, 2), "", "a.../....", "00", "0,1");
        is(last, resized(4, 4, "a~[4;1H", 4, 2), "a.../....", "..../....", "00", "1,0");
        is(last, resized(4, 4, "a~[4;1Hb~[3;1H", 4, 2), "a.../....", "..../b...", "00", "0,0");
        is(last + ", its first one", resized(4, 4, "b~[3;1Hc~[2;1H", 4, 1), "b...", "....", "0", "0,0");
        is("blanks without a mark are plain", resized(4, 4, "a~[4;1H ~[3;1H", 4, 2), "a...", "..../....", "00", "1,0");
        Panehouse h = resized(4, 4, "a~[4;1H~[7m ~[3;1H", 4, 2);
        is("blanks with a mark are not plain", h, "a.../....", "..../....", "00", "0,0");
        Due.is("its mark", h.mark(0, 1, 0), 4);
    }

    private static void joinedRows() {
        is("rows that go on are joined", resized(4, 3, "abcdefghij", 8, 3), "", "abcdefgh/ij....../........", "100",
                "1,2");
        is("rows that do not go on are not", resized(4, 3, "abcd\r\nefgh\r\nij", 8, 3), "",
                "abcd..../efgh..../ij......", "000", "2,2");
        is("those that scrolled away, too", resized(4, 1, "abcdefghij", 12, 1), "", "abcdefghij..", "0", "0,10");
        is("all but its last one go on", resized(12, 1, "abcdefghij\r", 4, 3), "", "abcd/efgh/ij..", "110", "0,0");
        Panehouse parted = resized(8, 2, "abcdefgh", 4, 3);
        Bytes.feed(parted, 0, "~[1;4Hx");
        parted.resize(0, 8, 3);
        is("one that does not go on any more is not", parted, "", "abcx..../efgh....", "00", "0,3");
        Panehouse h = resized(8, 2, "~[31mabcd~[1mefgh~[mij", 4, 3);
        Due.is("cells go with their marks", h.mark(0, 0, 3) * 100 + h.mark(0, 1, 0) * 10 + h.mark(0, 2, 0), 890);
    }

    private static void rowsWithoutANextOne() {
        is("joined with the next of these, if there is one", resized(4, 3, "abcde~[2;1H~[2K~[1;1H", 6, 4), "",
                "abcd../....../....../......", "0000", "0,0");
        is("the last row of all goes on", resized(4, 3, "~[1;2r~[3;1Habcde", 6, 3), "", "....../....../ebcd..",
                "000", "2,1");
        is("the next one is plain, and of these, as the cursor is in it", resized(4, 3, "abcde~[2;1H~[2K", 6, 3), "",
                "abcd../....../......", "000", "0,4");
        is("the next one is of another line now", resized(4, 3, "abcde~[2;1H~[Mfgh", 8, 3), "",
                "abcdfgh./......../........", "000", "0,7");
    }

    private static void lastCells() {
        is("all cells of its rows", resized(4, 2, "abc ef", 8, 2), "", "abc.ef../........", "00", "0,6");
        is("all cells of its rows", resized(4, 2, "abcdef~[1;1H~[3X~[2;3H", 8, 2), "", "...def../........", "00",
                "0,6");
        is("of its last one up to the last that is not plain", resized(8, 2, "ab      \r\nx", 4, 3), "",
                "ab../x.../....", "000", "1,1");
        is("blanks with a mark are not plain", resized(8, 2, "ab~[7m      ~[m\r\nx", 4, 3), "", "ab../..../x...",
                "100", "2,1");
        is("just as wide", resized(8, 2, "abcd\r\nx", 4, 3), "", "abcd/x.../....", "000", "1,1");
        is("wider by one", resized(8, 2, "abcde\r\nx", 4, 3), "", "abcd/e.../x...", "100", "2,1");
        is("twice as wide", resized(8, 2, "abcdefgh\r\nx", 4, 3), "", "abcd/efgh/x...", "100", "2,1");
    }

    private static void cursorInTheLine() {
        String needs = "as many as the cursor's place needs";
        is(needs, resized(8, 3, "~[4G", 4, 3), "", "..../..../....", "000", "0,3");
        is(needs, resized(8, 3, "~[5G", 4, 3), "", "..../..../....", "100", "1,0");
        is(needs, resized(8, 3, "~[8G", 4, 3), "", "..../..../....", "100", "1,3");
        is(needs + ", behind a full row", resized(8, 3, "abcd", 4, 3), "", "abcd/..../....", "100", "1,0");
        is(needs + ", behind a full row", resized(4, 1, "abcdefghij", 10, 1), "abcdefghij+", "..........", "0", "0,0");
        is("the cursor's own, too, if it waits", resized(8, 3, "abcdefgh", 4, 3), "", "abcd/efgh/....", "100", "1,3");
        is("the cursor's own, a blank", resized(8, 3, "        ", 4, 3), "", "..../..../....", "100", "1,3");
        is("the cursor stays at its place", resized(8, 3, "abcdefgh~[5G", 4, 3), "", "abcd/efgh/....", "100", "1,0");
        is("at its place in its line", resized(4, 3, "abcdefghij~[2;3H", 10, 3), "",
                "abcdefghij/........../..........", "000", "0,6");
        is("in a line without it nothing is added", resized(8, 2, "a\r\n~[5G", 4, 3), "", "a.../..../....", "010",
                "2,0");
    }

    private static void atLeastOneRow() {
        is("at least one", resized(8, 3, "\r\n\r\nx", 4, 4), "", "..../..../x.../....", "0000", "2,1");
        is("at least one, that scrolled away", resized(4, 1, "\n\nx", 8, 2), "........", "......../x.......", "00",
                "1,1");
    }

    private static void room() {
        String three = "a\r\nb\r\nc";
        is("as there is room for, more", resized(4, 4, three, 4, 5), "", "a.../b.../c.../..../....", "00000", "2,1");
        is("as there is room for, just", resized(4, 4, three, 4, 3), "", "a.../b.../c...", "000", "2,1");
        is("as there is room for, one less", resized(4, 4, three, 4, 2), "a...", "b.../c...", "00", "1,1");
        is("as there is room for, one row", resized(4, 4, three, 4, 1), "a.../b...", "c...", "0", "0,1");
    }

    private static void roomAgain() {
        String three = "a\r\nb\r\nc";
        is("those that scrolled away come back", resized(4, 1, three, 4, 2), "a...", "b.../c...", "00", "1,1");
        is("all of them", resized(4, 1, three, 4, 3), "", "a.../b.../c...", "000", "2,1");
        is("with plain ones below", resized(4, 1, three, 4, 4), "", "a.../b.../c.../....", "0000", "2,1");
    }

    private static void fromTheCursorOn() {
        String rows = "a\r\nb\r\nc\r\nd";
        is("none from the cursor's row on", resized(4, 4, rows + "~[4;1H", 4, 2), "a.../b...", "c.../d...", "00",
                "1,0");
        is("none from the cursor's row on", resized(4, 4, rows + "~[3;1H", 4, 2), "a.../b...", "c.../d...", "00",
                "0,0");
        is("more are lost, one", resized(4, 4, rows + "~[2;1H", 4, 2), "a...", "b.../c...", "00", "0,0");
        is("more are lost, two", resized(4, 4, rows + "~[1;1H", 4, 2), "", "a.../b...", "00", "0,0");
        Panehouse h = resized(4, 4, rows + "~[1;1H", 4, 1);
        h.resize(0, 4, 5);
        is("they do not come again", h, "", "a.../..../..../....", "0000", "0,0");
        is("of a line that is parted", resized(8, 2, "abcdefgh~[1;2H", 4, 1), "", "abcd", "1", "0,1");
        is("of a line that is parted", resized(8, 2, "abcdefgh~[1;6H", 4, 1), "abcd+", "efgh", "0", "0,1");
    }

    private static void fortyRows() {
        for (int kept = 37; kept <= 40; kept++) {
            Panehouse h = Bytes.house(4, 3);
            for (int i = 0; i < kept + 3; i++) {
                Bytes.feed(h, 0, (i == 0 ? "" : "\r\n") + (char) ('0' + i));
            }
            Due.is("kept ahead of it", h.state(0, 'p'), kept);
            h.resize(0, 4, 2);
            int now = Math.min(40, kept + 2);
            Due.is("up to 40 rows, of " + (kept + 2), h.state(0, 'p'), now);
            Due.is("the eldest ones go, of " + (kept + 2), h.cell(0, -now, 0), '0' + kept + 2 - now);
            Due.is("the youngest one, of " + (kept + 2), h.cell(0, -1, 0), '0' + kept + 1);
            Due.is("the screen, of " + (kept + 2), h.cell(0, 0, 0), '0' + kept + 2);
            Bytes.feed(h, 0, "\n");
            Due.is("one more scrolls away", h.state(0, 'p'), Math.min(40, now + 1));
            Due.is("it is the youngest one", h.cell(0, -1, 0), '0' + kept + 2);
        }
    }

    private static int signAt(int place) {
        return 'a' + place % 26;
    }

    /** One line of as many rows as can be is parted into two columns. */
    private static void narrowest() {
        Panehouse h = Bytes.house(29, 23);
        StringBuilder line = new StringBuilder();
        for (int place = 0; place < 63 * 29; place++) {
            line.append((char) signAt(place));
        }
        Bytes.feed(h, 0, line.toString());
        Due.is("kept", h.state(0, 'p'), 40);
        h.split(0, true, 1);
        Due.is("two columns", h.place(0, 'w'), 2);
        Due.is("kept", h.state(0, 'p'), 40);
        Due.is("cursor", Bytes.cursor(h, 0), "22,0");
        for (int row = -40; row < 23; row++) {
            int place = (914 - 23 + row) * 2;
            Due.is("row " + row, h.cell(0, row, 0), signAt(place));
            Due.is("row " + row, h.cell(0, row, 1), row == 22 ? ' ' : signAt(place + 1));
            Due.is("row " + row, h.goesOn(0, row), row < 22);
        }
        h.close(1);
        Due.is("kept", h.state(0, 'p'), 0);
        Due.is("cursor", Bytes.cursor(h, 0), "4,8");
        for (int i = 0; i < 125; i++) {
            Due.is("cell " + i, h.cell(0, i / 29, i % 29), signAt((914 - 63) * 2 + i));
        }
        Due.is("sound", h.isSound(), true);
    }

    private static void region() {
        int[][] sizes = {{7, 4}, {6, 5}, {6, 3}, {5, 1}};
        for (int[] size : sizes) {
            Panehouse h = resized(6, 4, "~[2;3r", size[0], size[1]);
            Due.is("the region is the whole screen", h.state(0, 't') + "-" + h.state(0, 'b'), "0-" + (size[1] - 1));
        }
        Panehouse h = resized(4, 3, "~[2;3r~[3;1Ha", 4, 4);
        Bytes.feed(h, 0, "\n\n");
        is("so that it scrolls in it", h, "....", "..../a.../..../....", "0000", "3,1");
    }

    private static void sameSize() {
        Panehouse h = resized(4, 3, "~[2;3rabcd", 4, 3);
        is("told the same size, it is no other one", h, "", "abcd/..../....", "000", "0,3w");
        Due.is("the region stays", h.state(0, 't') + "-" + h.state(0, 'b'), "1-2");
        h.attach(9, 9);
        h.resize(1, 20, 20);
        h.detach(1);
        is("another client is greater", h, "", "abcd/..../....", "000", "0,3w");
        Due.is("the region stays", h.state(0, 't') + "-" + h.state(0, 'b'), "1-2");
        h.window();
        h.look(0, 1);
        h.look(0, 0);
        is("what it had, if no client looks", h, "", "abcd/..../....", "000", "0,3w");
    }

    private static void whatStays() {
        Panehouse h = Edge.fed(6, 4, "~[2;3H~[31;4m~7~[?6h~[4h~[?7;25l~[5n\u0007~[");
        h.key(0, 'k');
        h.resize(0, 8, 6);
        Bytes.feed(h, 0, "3C");
        Due.is("a sequence goes on", Bytes.cursor(h, 0), "0,3");
        StringBuilder all = new StringBuilder();
        for (char what : "miovsky".toCharArray()) {
            all.append(h.state(0, what)).append(' ');
        }
        Due.is("mark, modes, bells, typed bytes", all.toString(), "10 1 1 0 0 1 1 ");
        Due.is("answers", h.feed(0, 0), 4);
        Bytes.feed(h, 0, "~8");
        Due.is("the saved place", Bytes.cursor(h, 0), "1,2");
    }
}
