/** Promises 15 to 21: bytes and screens, as parts 1 to 3 tell them. */
public final class ScreenTest {
    private ScreenTest() {
    }

    public static void main(String[] args) {
        feeding();
        controls();
        writing();
        inserting();
        scrolling();
        regions();
        escapes();
        spoilt();
        moving();
        plain();
        cells();
        rows();
        marks();
        saving();
        answering();
        modes();
        secondScreen();
        waiting();
        otherSigns();
        wrongInputs();
        Due.end();
    }

    private static void is(String what, Panehouse h, String screen, String cursor) {
        Due.is(what, Bytes.screen(h, 0), screen);
        Due.is(what, Bytes.cursor(h, 0), cursor);
    }

    private static void feeding() {
        Panehouse h = Bytes.house(4, 2);
        Due.is("feed", h.feed(0, 'a'), 0);
        Due.is("feedMore", h.feedMore(0, 2, 'b', 'c', 'd', -5, 999, 0, 0, 0), 0);
        is("two of them", h, "abc./....", "0,3");
        h.feedMore(0, 8, 'd', 'e', 'f', 'g', 'h', 'i', 'j', 'k');
        is("all of them", h, "efgh/ijk.", "1,3");
        for (int sign : new int[] {-1, 256, Integer.MAX_VALUE, Integer.MIN_VALUE}) {
            Due.illegalArgument("feed", () -> h.feed(0, sign));
            Due.illegalArgument("feedMore", () -> h.feedMore(0, 3, 'x', 'y', sign, 0, 0, 0, 0, 0));
            Due.illegalArgument("feedMore", () -> h.feedMore(0, sign, 'x', 'y', 'z', 0, 0, 0, 0, 0));
        }
        Due.illegalArgument("feedMore", () -> h.feedMore(0, 0, 'x', 'y', 'z', 0, 0, 0, 0, 0));
        Due.illegalArgument("feedMore", () -> h.feedMore(0, 9, 'x', 'y', 'z', 0, 0, 0, 0, 0));
        Due.outOfBounds("feed", () -> h.feed(1, -1));
        Due.outOfBounds("feedMore", () -> h.feedMore(-1, 0, 'x', 'y', 'z', 0, 0, 0, 0, 0));
        is("nothing was changed by those", h, "efgh/ijk.", "1,3");
        h.feed(0, 255);
        h.feed(0, 127);
        h.feed(0, 0);
        is("nor by other bytes", h, "efgh/ijk.", "1,3");
        h.feed(0, 126);
        Due.is("126 is written", h.cell(0, 1, 3), 126);
        h.feed(0, '\r');
        h.feed(0, 32);
        Due.is("32 is written", h.cell(0, 1, 0), ' ');
    }

    private static void controls() {
        Panehouse h = Bytes.house(20, 3);
        Bytes.feed(h, 0, "ab\t");
        Due.is("to the column 8", Bytes.cursor(h, 0), "0,8");
        Bytes.feed(h, 0, "\t");
        Due.is("from one that 8 divides", Bytes.cursor(h, 0), "0,16");
        Bytes.feed(h, 0, "\t");
        Due.is("to the last one, not waiting", Bytes.cursor(h, 0), "0,19");
        Bytes.feed(h, 0, "c");
        Due.is("waiting", Bytes.cursor(h, 0), "0,19w");
        Bytes.feed(h, 0, "\u0007");
        Due.is("a bell does not end it", Bytes.cursor(h, 0), "0,19w");
        Due.is("bells", h.state(0, 'k'), 1);
        Bytes.feed(h, 0, "\t");
        Due.is("9 ends waiting", Bytes.cursor(h, 0), "0,19");
        Bytes.feed(h, 0, "d\b");
        Due.is("8 goes one back", Bytes.cursor(h, 0), "0,18");
        Bytes.feed(h, 0, "xy\n");
        Due.is("10 goes down, the same column", Bytes.cursor(h, 0), "1,19");
        Bytes.feed(h, 0, "z\r");
        Due.is("13 goes to the column 0", Bytes.cursor(h, 0), "1,0");
        Bytes.feed(h, 0, "\b");
        is("no column is back there", h, "ab................xy/...................z/....................", "1,0");
        Due.is("no row goes on", Bytes.onward(h, 0), "000");
    }

    private static void writing() {
        Panehouse h = Bytes.house(4, 3);
        Bytes.feed(h, 0, "abcd");
        is("waiting", h, "abcd/..../....", "0,3w");
        Due.is("not yet going on", Bytes.onward(h, 0), "000");
        Bytes.feed(h, 0, "e");
        is("wrapped", h, "abcd/e.../....", "1,1");
        Due.is("goes on", Bytes.onward(h, 0), "100");
        Bytes.feed(h, 0, "~[1;4Hx");
        is("its last cell written", h, "abcx/e.../....", "0,3w");
        Due.is("does not go on any more", Bytes.onward(h, 0), "000");
        Bytes.feed(h, 0, "~[?7lyz");
        is("without wrapping", h, "abcz/e.../....", "0,3w");
        Due.is("does not go on", Bytes.onward(h, 0), "000");
        Bytes.feed(h, 0, "~[?7hA~[1;3HB");
        Due.is("another cell is written", Bytes.onward(h, 0), "100");
        Bytes.feed(h, 0, "~[3;1Hfghijklm");
        is("wrapped at the bottom", h, "A.../fghi/jklm", "2,3w");
        Due.is("the row goes on as it moved", Bytes.onward(h, 0), "010");
        Due.is("kept row", Bytes.row(h, 0, -1), "abBz");
        Due.is("a kept row goes on", h.goesOn(0, -1), true);
        Bytes.feed(h, 0, "~[2;3r~[3;4Hpq~[1;2r~[3;4Hrs");
        is("no row is behind the last one", h, "A.../jklp/s..r", "2,1");
        Due.is("the last row goes on all the same", Bytes.onward(h, 0), "011");
    }

    private static void inserting() {
        Panehouse h = Bytes.house(4, 2);
        Bytes.feed(h, 0, "abcde~[1;2H~[4h");
        Due.is("inserting", h.state(0, 'i'), 1);
        Bytes.feed(h, 0, "x");
        is("moved", h, "axbc/e...", "0,2");
        Due.is("cells of it moved", Bytes.onward(h, 0), "00");
        Bytes.feed(h, 0, "yz");
        is("at the last column", h, "axyz/e...", "0,3w");
        Bytes.feed(h, 0, "q");
        is("moved behind wrapping", h, "axyz/qe..", "1,1");
        Due.is("goes on", Bytes.onward(h, 0), "10");
        Bytes.feed(h, 0, "~[4lr");
        Due.is("inserting", h.state(0, 'i'), 0);
        is("written over", h, "axyz/qr..", "1,2");
        h.resize(0, 6, 3);
        is("the last one is lost for ever", h, "axyzqr/......", "1,0");
    }

    private static void scrolling() {
        Panehouse h = Bytes.house(4, 2);
        for (int i = 0; i < 45; i++) {
            Bytes.feed(h, 0, (char) ('A' + i % 26) + "\r\n");
        }
        Due.is("at most 40 are kept", h.state(0, 'p'), 40);
        Due.is("screen", Bytes.screen(h, 0), "S.../....");
        Due.is("last one", Bytes.row(h, 0, -1), "R...");
        Due.is("eldest one", Bytes.row(h, 0, -40), "E...");
        Due.outOfBounds("no row", () -> h.cell(0, -41, 0));
        Due.outOfBounds("no row", () -> h.goesOn(0, -41));
        Bytes.feed(h, 0, "~[9S");
        Due.is("as many as the region has rows", h.cell(0, -2, 0), 'S');
        Due.is("plain rows are kept, too", Bytes.row(h, 0, -1), "....");
        Due.is("eldest one", Bytes.row(h, 0, -40), "G...");
        Due.is("the cursor stays", Bytes.cursor(h, 0), "1,0");
        Bytes.feed(h, 0, "x~[T");
        is("down", h, "..../....", "1,1");
        Due.is("down does not keep", h.cell(0, -40, 0), 'G');
    }

    private static void regionIs(String what, Panehouse h, String firstColumn, String cursor) {
        StringBuilder signs = new StringBuilder();
        for (int row = 0; row < 5; row++) {
            signs.append(Bytes.row(h, 0, row).charAt(0));
        }
        Due.is(what, signs.toString(), firstColumn);
        Due.is(what, Bytes.cursor(h, 0), cursor);
    }

    private static void regions() {
        Panehouse h = Bytes.house(4, 5);
        Bytes.feed(h, 0, "a\r\nb\r\nc\r\nd\r\ne~[2;4r");
        Due.is("top", h.state(0, 't'), 1);
        Due.is("bottom", h.state(0, 'b'), 3);
        regionIs("the cursor goes to the column 0 of row 0", h, "abcde", "0,0");
        Bytes.feed(h, 0, "~[4;2H\n");
        regionIs("scrolled", h, "acd.e", "3,1");
        Due.is("not kept, as the top is not row 0", h.state(0, 'p'), 0);
        Bytes.feed(h, 0, "\n~[2;1H~M");
        regionIs("down", h, "a.d.e", "1,0");
        Bytes.feed(h, 0, "~[5;1H\n\n");
        regionIs("below the region", h, "a.d.e", "4,0");
        Bytes.feed(h, 0, "~M~M~M~M~M");
        regionIs("up", h, "a...e", "1,0");
        Bytes.feed(h, 0, "~[1;1H~M");
        regionIs("above the region", h, "a...e", "0,0");
        Bytes.feed(h, 0, "\n");
        regionIs("into the region", h, "a...e", "1,0");
        Bytes.feed(h, 0, "x~[0;2r~[2;1H\n");
        regionIs("region from row 0", h, "x...e", "1,0");
        Due.is("kept, as the top is row 0", h.state(0, 'p'), 1);
        Bytes.feed(h, 0, "~[3;3r");
        Due.is("the first one is not less", Bytes.cursor(h, 0), "1,0");
        Bytes.feed(h, 0, "~[4;3r~[9;99r~[9r");
        Due.is("top and bottom as before", h.state(0, 't') * 10 + h.state(0, 'b'), 1);
        Bytes.feed(h, 0, "~[3;6r");
        Due.is("above the last row", h.state(0, 't') * 10 + h.state(0, 'b'), 24);
        Bytes.feed(h, 0, "~[2;4r~[4r");
        Due.is("without a second one", h.state(0, 't') * 10 + h.state(0, 'b'), 34);
        Bytes.feed(h, 0, "~[;5r");
        Due.is("at least one", h.state(0, 't') * 10 + h.state(0, 'b'), 4);
    }

    private static void escapes() {
        Panehouse h = Bytes.house(4, 2);
        Bytes.feed(h, 0, "a~Db~Dc");
        is("27 D goes down", h, ".b../..c.", "1,3");
        Bytes.feed(h, 0, "d~D");
        is("ending waiting", h, "..cd/....", "1,3");
        Bytes.feed(h, 0, "e~Mf");
        is("27 M goes up, ending waiting", h, "..cf/...e", "0,3w");
        Bytes.feed(h, 0, "~Q~\u00ff~\u007fg");
        is("others do nothing", h, "..cf/g..e", "1,1");
        Bytes.feed(h, 0, "~\rh~\u0007");
        is("another byte below 32 is done itself", h, "..cf/h..e", "1,1");
        Due.is("bells", h.state(0, 'k'), 1);
        Bytes.feed(h, 0, "~~Mi");
        is("27 begins a new one", h, ".icf/h..e", "0,2");
        Bytes.feed(h, 0, "~[5n~[1;2r~[?6h~[?7l~[?25l~[4h~[1;31mx~7~[?47h\u0007~c");
        is("as at first", h, "..../....", "0,0");
        Due.is("answers stay", h.feed(0, 0), 4);
        Due.is("bells stay", h.state(0, 'k'), 2);
        Due.is("rows that scrolled away stay", h.state(0, 'p'), 2);
        String all = "";
        for (char what : "rcwmtbaiovs".toCharArray()) {
            all += h.state(0, what);
        }
        Due.is("state", all, "00000100011");
        Bytes.feed(h, 0, "x~8");
        Due.is("saved as at first", Bytes.cursor(h, 0), "0,0");
        h.key(0, 'k');
        Bytes.feed(h, 0, "~c");
        Due.is("typed bytes stay", h.state(0, 'y'), 1);
    }

    private static void spoilt() {
        Panehouse h = Bytes.house(20, 4);
        Bytes.feed(h, 0, "~[1;2;3;4;5C");
        Due.is("a fifth number spoils", Bytes.cursor(h, 0), "0,0");
        Bytes.feed(h, 0, "~[1;2;3;4;C");
        Due.is("a fifth one without digits, too", Bytes.cursor(h, 0), "0,0");
        Bytes.feed(h, 0, "~[1;2;3;4C");
        Due.is("four do not", Bytes.cursor(h, 0), "0,1");
        Bytes.feed(h, 0, "~[2:3C~[ C~[1?C~[>2C~[2\u0080C~[!C~[2\u007fCx");
        Due.is("other bytes spoil", Bytes.row(h, 0, 0), ".x..................");
        Bytes.feed(h, 0, "~[2\rCy");
        Due.is("13 ends it, and is done", Bytes.row(h, 0, 0), "Cy..................");
        Bytes.feed(h, 0, "~[2~[3Cz");
        Due.is("27 begins a new one", Bytes.row(h, 0, 0), "Cy...z..............");
        Bytes.feed(h, 0, "~[1?47h~[47?h");
        Due.is("? stands only behind [", h.state(0, 'a'), 0);
        Bytes.feed(h, 0, "~[?3C~[?C~[?H~[?J~[?m");
        Due.is("with ? nothing", Bytes.cursor(h, 0), "0,6");
        Bytes.feed(h, 0, "~[0000000002C");
        Due.is("digits", Bytes.cursor(h, 0), "0,8");
        Bytes.feed(h, 0, "~[99999999999999999999D");
        Due.is("999 for greater ones", Bytes.cursor(h, 0), "0,0");
        Bytes.feed(h, 0, "~[00C");
        Due.is("at least 1", Bytes.cursor(h, 0), "0,1");
        Bytes.feed(h, 0, "~[3@");
        h.feedMore(0, 5, 27, '[', '5', 126, 'w', 0, 0, 0);
        Due.is("an end that does nothing", Bytes.row(h, 0, 0), "Cw..y...z...........");
    }

    private static void moving() {
        Panehouse h = Bytes.house(10, 6);
        Bytes.feed(h, 0, "~[3;5H");
        Due.is("H", Bytes.cursor(h, 0), "2,4");
        Bytes.feed(h, 0, "~[99;99f");
        Due.is("f, the last ones", Bytes.cursor(h, 0), "5,9");
        Bytes.feed(h, 0, "~[;4H");
        Due.is("H", Bytes.cursor(h, 0), "0,3");
        Bytes.feed(h, 0, "~[5H");
        Due.is("H", Bytes.cursor(h, 0), "4,0");
        Bytes.feed(h, 0, "~[7G~[2d");
        Due.is("G and d", Bytes.cursor(h, 0), "1,6");
        Bytes.feed(h, 0, "~[99G~[99d");
        Due.is("the last ones", Bytes.cursor(h, 0), "5,9");
        Bytes.feed(h, 0, "~[2A~[3D");
        Due.is("A and D", Bytes.cursor(h, 0), "3,6");
        Bytes.feed(h, 0, "~[B~[C");
        Due.is("B and C", Bytes.cursor(h, 0), "4,7");
        Bytes.feed(h, 0, "~[99B~[99C");
        Due.is("as far as there are", Bytes.cursor(h, 0), "5,9");
        Bytes.feed(h, 0, "~[99A~[99D");
        Due.is("as far as there are", Bytes.cursor(h, 0), "0,0");
        Bytes.feed(h, 0, "~[3;5r~[2B");
        Due.is("B from above the region", Bytes.cursor(h, 0), "2,0");
        Bytes.feed(h, 0, "~[99B");
        Due.is("at most to its bottom", Bytes.cursor(h, 0), "4,0");
        Bytes.feed(h, 0, "~[99A");
        Due.is("at most to its top", Bytes.cursor(h, 0), "2,0");
        Bytes.feed(h, 0, "~[2d~[99A");
        Due.is("above it to row 0", Bytes.cursor(h, 0), "0,0");
        Bytes.feed(h, 0, "~[99B");
        Due.is("from above to its bottom", Bytes.cursor(h, 0), "4,0");
        Bytes.feed(h, 0, "~[6d~[99B");
        Due.is("below it to the last row", Bytes.cursor(h, 0), "5,0");
        Bytes.feed(h, 0, "~[3d~[A");
        Due.is("A at its top", Bytes.cursor(h, 0), "2,0");
        Bytes.feed(h, 0, "~[5d~[B");
        Due.is("B at its bottom", Bytes.cursor(h, 0), "4,0");
        Bytes.feed(h, 0, "~[6d");
        Bytes.feed(h, 0, "~[99A");
        Due.is("from below to its top", Bytes.cursor(h, 0), "2,0");
        Bytes.feed(h, 0, "~[?6h");
        Due.is("origin goes to the top", Bytes.cursor(h, 0), "2,0");
        Bytes.feed(h, 0, "~[2;3H");
        Due.is("counted from the top", Bytes.cursor(h, 0), "3,2");
        Bytes.feed(h, 0, "~[9d");
        Due.is("ends at the bottom", Bytes.cursor(h, 0), "4,2");
        Bytes.feed(h, 0, "~[9;9H");
        Due.is("ends at the bottom", Bytes.cursor(h, 0), "4,8");
        Bytes.feed(h, 0, "~[2;4r");
        Due.is("r with origin", Bytes.cursor(h, 0), "1,0");
        Bytes.feed(h, 0, "~[2B~[?6h");
        Due.is("once more", Bytes.cursor(h, 0), "1,0");
        Bytes.feed(h, 0, "~[2B~[?6l");
        Due.is("origin off goes to row 0", Bytes.cursor(h, 0), "0,0");
    }

    private static Panehouse filled() {
        Panehouse h = Bytes.house(4, 4);
        Bytes.feed(h, 0, "abcdefghijklmnop~[2;3H");
        return h;
    }

    private static void plain() {
        String[] ends = {"J", "0J", "1J", "2J", "3J", "K", "1K", "2K", "7K", "X", "2X", "9X"};
        String[] screens = {"abcd/ef../..../....", "abcd/ef../..../....", "..../...h/ijkl/mnop", "..../..../..../....",
            "abcd/efgh/ijkl/mnop", "abcd/ef../ijkl/mnop", "abcd/...h/ijkl/mnop", "abcd/..../ijkl/mnop",
            "abcd/efgh/ijkl/mnop", "abcd/ef.h/ijkl/mnop", "abcd/ef../ijkl/mnop", "abcd/ef../ijkl/mnop"};
        String[] onward = {"1000", "1000", "0110", "0000", "1110", "1010", "1110", "1010", "1110", "1110", "1010",
            "1010"};
        for (int i = 0; i < ends.length; i++) {
            Panehouse h = filled();
            Bytes.feed(h, 0, "~[" + ends[i]);
            is(ends[i], h, screens[i], "1,2");
            Due.is(ends[i] + " rows that go on", Bytes.onward(h, 0), onward[i]);
        }
        Panehouse h = filled();
        Bytes.feed(h, 0, "~[2;4H~[1K");
        Due.is("up to the last column", Bytes.onward(h, 0), "1010");
        Bytes.feed(h, 0, "~[7m~[3;1H~[K");
        Due.is("plain cells have the mark 0", h.mark(0, 2, 0), 0);
    }

    private static void cells() {
        String[] ends = {"@", "2@", "9@", "P", "2P", "9P"};
        String[] rows = {"ef.g", "ef..", "ef..", "efh.", "ef..", "ef.."};
        for (int i = 0; i < ends.length; i++) {
            Panehouse h = filled();
            Bytes.feed(h, 0, "~[" + ends[i]);
            is(ends[i], h, "abcd/" + rows[i] + "/ijkl/mnop", "1,2");
            Due.is(ends[i] + " rows that go on", Bytes.onward(h, 0), "1010");
        }
        Panehouse h = filled();
        Bytes.feed(h, 0, "~[4m~[2;1H~[@");
        is("from the first column", h, "abcd/.efg/ijkl/mnop", "1,0");
        Due.is("a plain cell comes in", h.mark(0, 1, 0), 0);
        Bytes.feed(h, 0, "~[2P");
        is("from the first column", h, "abcd/fg../ijkl/mnop", "1,0");
    }

    private static void rows() {
        String[] ends = {"L", "2L", "9L", "M", "2M", "9M", "S", "T", "9T"};
        String[] screens = {"abcd/..../efgh/mnop", "abcd/..../..../mnop", "abcd/..../..../mnop", "abcd/ijkl/..../mnop",
            "abcd/..../..../mnop", "abcd/..../..../mnop", "efgh/ijkl/..../mnop", "..../abcd/efgh/mnop",
            "..../..../..../mnop"};
        String[] onward = {"1010", "1000", "1000", "1100", "1000", "1000", "1100", "0110", "0000"};
        for (int i = 0; i < ends.length; i++) {
            Panehouse h = filled();
            Bytes.feed(h, 0, "~[1;3r~[2;3H~[" + ends[i]);
            is(ends[i], h, screens[i], "1,2");
            Due.is(ends[i] + " rows that go on", Bytes.onward(h, 0), onward[i]);
            Due.is(ends[i] + " kept", h.state(0, 'p'), ends[i].equals("S") ? 1 : 0);
        }
        Panehouse h = filled();
        Bytes.feed(h, 0, "~[3;4r~[2;3H~[L~[M");
        is("above the region", h, "abcd/efgh/ijkl/mnop", "1,2");
        Bytes.feed(h, 0, "~[1;2r~[3;3H~[L~[M");
        is("below the region", h, "abcd/efgh/ijkl/mnop", "2,2");
        Bytes.feed(h, 0, "~[2;1H~[L");
        is("at its bottom", h, "abcd/..../ijkl/mnop", "1,0");
        Bytes.feed(h, 0, "efgh~[1;1H~[M");
        is("at row 0", h, "efgh/..../ijkl/mnop", "0,0");
        Due.is("M does not keep", h.state(0, 'p'), 0);
        Bytes.feed(h, 0, "~[r~[99S");
        Due.is("S keeps as many as the region has rows", h.state(0, 'p'), 4);
    }

    private static int markOf(String sequence) {
        Panehouse h = Bytes.house(4, 1);
        Bytes.feed(h, 0, sequence + "x");
        Due.is(sequence, h.mark(0, 0, 0), h.state(0, 'm'));
        Due.is(sequence, h.cell(0, 0, 0), 'x');
        return h.mark(0, 0, 0);
    }

    private static void marks() {
        Due.is("plain", markOf(""), 0);
        Due.is("bold", markOf("~[1m"), 1);
        Due.is("underlined", markOf("~[4m"), 2);
        Due.is("turned", markOf("~[7m"), 4);
        Due.is("not bold", markOf("~[1;4;7;22m"), 6);
        Due.is("not underlined", markOf("~[1;4;7;24m"), 5);
        Due.is("not turned", markOf("~[1;4;7;27m"), 3);
        Due.is("a colour", markOf("~[37m"), 56);
        Due.is("all", markOf("~[1;4;7;37m"), 63);
        Due.is("another colour", markOf("~[1;37;31m"), 9);
        Due.is("colour 0", markOf("~[1;35;30m"), 1);
        Due.is("39", markOf("~[1;35;39m"), 1);
        Due.is("0", markOf("~[1;35;0m"), 0);
        Due.is("none", markOf("~[1;35m~[m"), 0);
        Due.is("none but ;", markOf("~[1;35m~[;m"), 0);
        Due.is("0 then bold", markOf("~[35m~[;1m"), 1);
        Due.is("others", markOf("~[1m~[2;3;5;8m~[38;29;40;999m"), 1);
        Due.is("with ?", markOf("~[1m~[?4m"), 1);
    }

    private static void saving() {
        Panehouse h = Bytes.house(6, 4);
        Bytes.feed(h, 0, "~[2;3H~[4m~[s~[4;1H~[0m~[u");
        Due.is("u", Bytes.cursor(h, 0), "1,2");
        Due.is("mark", h.state(0, 'm'), 2);
        Bytes.feed(h, 0, "~[1mabcd~7~[H~[m~8");
        Due.is("waiting as saved", Bytes.cursor(h, 0), "1,5w");
        Due.is("mark", h.state(0, 'm'), 3);
        Bytes.feed(h, 0, "~[?47h~8");
        Due.is("one place for both screens", Bytes.cursor(h, 0), "1,5w");
        Bytes.feed(h, 0, "~[?47l~[H");
        h.resize(0, 8, 3);
        Bytes.feed(h, 0, "~8");
        Due.is("it waits only at the last column", Bytes.cursor(h, 0), "1,5");
        h.resize(0, 5, 2);
        Bytes.feed(h, 0, "~[u");
        Due.is("as far as there are rows and columns", Bytes.cursor(h, 0), "0,4w");
    }

    private static void answering() {
        Panehouse h = Bytes.house(12, 12);
        Due.is("5n", Bytes.feed(h, 0, "~[5n"), 4);
        Due.is("6n", Bytes.feed(h, 0, "~[11;12H~[6n"), 12);
        Due.is("others", Bytes.feed(h, 0, "~[n~[0n~[7n~[?6n~[?5n~[1;5n"), 12);
        Due.is("origin", Bytes.feed(h, 0, "~[3;9r~[?6h~[2;5H~[6n"), 18);
        Due.is("answers", Bytes.answers(h, 0, 18), "~[0n~[11;12R~[2;5R");
        Due.noSuchElement("no more", () -> h.answer(0));
        Due.outOfBounds("no pane", () -> h.answer(1));
        Bytes.feed(h, 0, "~[1;1H~8~[6n");
        Due.is("above the region", Bytes.answers(h, 0, 7), "~[-1;1R");
        for (int i = 0; i < 49; i++) {
            Bytes.feed(h, 0, "~[5n");
        }
        Due.is("196 are kept", h.feed(0, 0), 196);
        Due.is("no room for all of it", Bytes.feed(h, 0, "~[6n"), 196);
        Due.is("room", Bytes.feed(h, 0, "~[5n"), 200);
        Due.is("no room", Bytes.feed(h, 0, "~[5n"), 200);
        Due.is("the first one is taken", h.answer(0), 27);
        Due.is("then", h.answer(0), '[');
        Due.is("no room for all of it", Bytes.feed(h, 0, "~[5n"), 198);
    }

    private static void modes() {
        Panehouse h = Bytes.house(6, 4);
        Bytes.feed(h, 0, "~[?4h~[6h~[7l~[25l~[47h~[h~[?h~[?1;2;3h");
        String all = "";
        for (char what : "aiovs".toCharArray()) {
            all += h.state(0, what);
        }
        Due.is("others do nothing", all, "00011");
        Bytes.feed(h, 0, "~[3;4h~[?25;7l~[?6;47h");
        all = "";
        for (char what : "aiovs".toCharArray()) {
            all += h.state(0, what);
        }
        Due.is("each number", all, "11100");
    }

    private static void secondScreen() {
        Panehouse h = Bytes.house(4, 2);
        Bytes.feed(h, 0, "abcd~[?47l");
        Due.is("it was so already", Bytes.cursor(h, 0), "0,3w");
        Bytes.feed(h, 0, "~[?47h");
        is("plain", h, "..../....", "0,0");
        Due.is("in use", h.state(0, 'a'), 1);
        Bytes.feed(h, 0, "efghi~[?47h");
        is("it is so already", h, "efgh/i...", "1,1");
        Due.is("rows of it do not go on", Bytes.onward(h, 0), "00");
        Bytes.feed(h, 0, "\n\n");
        Due.is("rows of it are not kept", h.state(0, 'p'), 0);
        Bytes.feed(h, 0, "~[?47l");
        is("the first one as it was", h, "abcd/....", "0,3w");
        Bytes.feed(h, 0, "ijklm~[?47hn~[?47l~[?47h");
        is("plain once more", h, "..../....", "0,0");
        Bytes.feed(h, 0, "~[?47l");
        Due.is("kept", h.state(0, 'p'), 1);
        Bytes.feed(h, 0, "~[?47hx");
        Due.is("kept", h.state(0, 'p'), 1);
        Due.outOfBounds("not of the second screen", () -> h.cell(0, -1, 0));
        Due.outOfBounds("not of the second screen", () -> h.goesOn(0, -1));
        is("plain once more", h, "x.../....", "0,1");
    }

    private static void waiting() {
        String ends = "ABCDGHfdJKX@PLMSTrmsnhl";
        for (int i = 0; i < ends.length(); i++) {
            char end = ends.charAt(i);
            Panehouse h = Bytes.house(4, 2);
            Bytes.feed(h, 0, "abcd~[" + end);
            Due.is("waits behind " + end, h.state(0, 'w'), "msnhl".indexOf(end) >= 0 ? 1 : 0);
        }
        Panehouse h = Bytes.house(4, 2);
        Bytes.feed(h, 0, "abcd~[u");
        Due.is("u restores", Bytes.cursor(h, 0), "0,0");
        Bytes.feed(h, 0, "~[1;4Hx~[?5A~[1:A~[1;2;3;4;5A");
        Due.is("what does nothing", Bytes.cursor(h, 0), "0,3w");
        for (String end : new String[] {"3J", "9K", "5;2r"}) {
            Bytes.feed(h, 0, "~[1;4Hx~[" + end);
            Due.is("waits no more behind " + end, Bytes.cursor(h, 0), "0,3");
        }
        Bytes.feed(h, 0, "x");
        Bytes.feed(h, 0, "~[?6h");
        Due.is("origin goes", Bytes.cursor(h, 0), "0,0");
    }

    /** All signs from 64 to 126 that the document does not name; '[' is one of them behind '['. */
    private static void otherSigns() {
        String named = "ABCDGHfdJKX@PLMSTrmsunhl";
        for (char end = 64; end <= 126; end++) {
            if (named.indexOf(end) >= 0) {
                continue;
            }
            for (String numbers : new String[] {"", "0", "7", "2;3", "4", "?25", "?47"}) {
                leavesAll(numbers, end);
            }
        }
    }

    private static void leavesAll(String numbers, char end) {
        String what = "27 [ " + numbers + " " + end;
        Panehouse h = Bytes.house(4, 3);
        Bytes.feed(h, 0, "~[31m~[sabcdefgh");
        long before = h.checksum(0);
        String states = states(h);
        h.feedMore(0, 2, 27, '[', 0, 0, 0, 0, 0, 0);
        Bytes.feed(h, 0, numbers);
        Due.is(what + " has no answer", h.feed(0, end), 0);
        Due.is(what + " leaves the cursor", Bytes.cursor(h, 0), "1,3w");
        Due.is(what + " leaves the screens", h.checksum(0), before);
        Due.is(what + " leaves the state", states(h), states);
        Bytes.feed(h, 0, "=");
        is("waiting was left by " + what, h, "abcd/efgh/=...", "2,1");
        Due.is("the row goes on behind " + what, Bytes.onward(h, 0), "110");
        Bytes.feed(h, 0, "~[u");
        Due.is(what + " leaves what is saved", Bytes.cursor(h, 0), "0,0");
    }

    private static String states(Panehouse h) {
        StringBuilder all = new StringBuilder();
        for (char what : "rcwmtbaiovskpy".toCharArray()) {
            all.append(h.state(0, what)).append(' ');
        }
        return all.toString();
    }

    private static void wrongInputs() {
        Panehouse h = Bytes.house(4, 2);
        Due.outOfBounds("row", () -> h.cell(0, 2, 0));
        Due.outOfBounds("row", () -> h.cell(0, -1, 0));
        Due.outOfBounds("column", () -> h.cell(0, 0, 4));
        Due.outOfBounds("column", () -> h.cell(0, 0, -1));
        Due.outOfBounds("pane", () -> h.cell(1, 0, 0));
        Due.outOfBounds("row", () -> h.mark(0, 2, 0));
        Due.outOfBounds("row", () -> h.mark(0, Integer.MIN_VALUE, 0));
        Due.outOfBounds("column", () -> h.mark(0, 0, Integer.MAX_VALUE));
        Due.outOfBounds("pane", () -> h.mark(-1, 0, 0));
        Due.outOfBounds("row", () -> h.goesOn(0, 2));
        Due.outOfBounds("row", () -> h.goesOn(0, -1));
        Due.outOfBounds("pane", () -> h.goesOn(8, 0));
        Due.outOfBounds("pane ahead of the letter", () -> h.state(1, '?'));
        Due.illegalArgument("letter", () -> h.state(0, 'z'));
        Due.illegalArgument("letter", () -> h.state(0, 'R'));
    }
}
