/** The boundary cases of part 3, each beside the sentence that names it. */
public final class SequenceEdgesTest {
    /** Six rows of ten columns, whose region is the rows 1 to 3. */
    private static final String REGION = "~[2;4r";
    private static final String FOUR = "abcdefghijklmnop";

    private SequenceEdgesTest() {
    }

    public static void main(String[] args) {
        endingWaiting();
        movingUp();
        movingDown();
        movingSideways();
        goingToPlaces();
        goingToPlacesWithOrigin();
        plainScreens();
        plainRows();
        plainCells();
        cellsIn();
        cellsAway();
        othersThanNamed();
        rowsIn();
        rowsAway();
        scrolling();
        regions();
        regionsThatAreNone();
        marks();
        colours();
        saving();
        answers();
        roomForAnswers();
        modes();
        otherModes();
        secondScreen();
        Due.end();
    }

    private static void endingWaiting() {
        String named = "ABCDGHfdJKX@PLMSTr";
        for (int i = 0; i < named.length(); i++) {
            Edge.state("the cursor waits no more", 4, 3, "abcd~[" + named.charAt(i), 'w', 0);
        }
        for (String end : new String[] {"m", "s", "n", "h", "l", "0m", "31m", "5n", "6n", "4h", "4l", "?7h", "?25l"}) {
            Edge.cursor("but with m, s, n, h, l", 4, 3, "abcd~[" + end, "0,3w");
        }
        Edge.cursor("A that cannot go up ends waiting, too", 4, 3, "abcd~[A", "0,3");
        Edge.cursor("L out of the region ends waiting, too", 4, 3, "~[2;3r~[1;1Habcd~[L", "0,3");
        Edge.screen("G to the last column does not wait", 4, 2, "abcd~[4Ge", "abce/....", "0,3w");
        Edge.screen("K from a cursor that waits", 4, 2, "abcd~[K", "abc./....", "0,3");
    }

    private static void up(String what, int row, String end, int due) {
        Edge.cursor(what, 10, 6, REGION + "~[" + (row + 1) + ";3H~[" + end, due + ",2");
    }

    private static void movingUp() {
        up("A: up so many rows", 3, "A", 2);
        up("n is at least 1", 3, "0A", 2);
        up("up so many rows", 3, "1A", 2);
        up("up to the top", 3, "2A", 1);
        up("at most to the top of the region", 3, "3A", 1);
        up("at most to the top of the region", 3, "999A", 1);
        up("from the top itself", 1, "A", 1);
        up("from below the region into it", 5, "3A", 2);
        up("from below the region, at most to its top", 5, "5A", 1);
        up("if it is not above that, otherwise to row 0", 0, "A", 0);
        Edge.cursor("above the top", 10, 6, "~[4;6r~[3;1H~[A", "1,0");
        Edge.cursor("above the top, to row 0", 10, 6, "~[4;6r~[3;1H~[2A", "0,0");
        Edge.cursor("above the top, to row 0", 10, 6, "~[4;6r~[3;1H~[3A", "0,0");
        Edge.cursor("without a region, to row 0", 10, 6, "~[3;1H~[9A", "0,0");
    }

    private static void movingDown() {
        up("B: down", 1, "B", 2);
        up("n is at least 1", 1, "0B", 2);
        up("down to the bottom", 1, "2B", 3);
        up("at most to the bottom", 1, "3B", 3);
        up("at most to the bottom", 1, "999B", 3);
        up("from the bottom itself", 3, "B", 3);
        up("from above the region into it", 0, "2B", 2);
        up("from above the region, at most to its bottom", 0, "9B", 3);
        up("if it is not below that, otherwise to the last row", 4, "B", 5);
        up("below the bottom, to the last row", 4, "2B", 5);
        up("below the bottom, at the last row", 5, "B", 5);
        Edge.cursor("below the bottom", 10, 6, "~[1;2r~[4;1H~[B", "4,0");
        Edge.cursor("without a region, to the last row", 10, 6, "~[9B", "5,0");
    }

    private static void movingSideways() {
        String right = "C: right, as far as there are columns";
        Edge.cursor(right, 10, 2, "~[C", "0,1");
        Edge.cursor(right, 10, 2, "~[8C", "0,8");
        Edge.cursor(right, 10, 2, "~[9C", "0,9");
        Edge.cursor(right, 10, 2, "~[10C", "0,9");
        Edge.cursor(right, 10, 2, "~[10G~[C", "0,9");
        String left = "D: left, as far as there are columns";
        Edge.cursor(left, 10, 2, "~[10G~[D", "0,8");
        Edge.cursor(left, 10, 2, "~[10G~[8D", "0,1");
        Edge.cursor(left, 10, 2, "~[10G~[9D", "0,0");
        Edge.cursor(left, 10, 2, "~[10G~[10D", "0,0");
        Edge.cursor(left, 10, 2, "\n~[D", "1,0");
        String column = "G: to the column n less 1, or the last one";
        Edge.cursor(column, 10, 2, "\nabc~[G", "1,0");
        Edge.cursor(column, 10, 2, "\nabc~[0G", "1,0");
        Edge.cursor(column, 10, 2, "\n~[2G", "1,1");
        Edge.cursor(column, 10, 2, "\n~[10G", "1,9");
        Edge.cursor(column, 10, 2, "\n~[11G", "1,9");
        Edge.cursor("C from a cursor that waits", 4, 2, "abcd~[C", "0,3");
        Edge.cursor("D from a cursor that waits", 4, 2, "abcd~[D", "0,2");
    }

    private static void goingToPlaces() {
        for (String end : new String[] {"H", "f"}) {
            String sentence = end + ": to the row n less 1 and the column of the second number";
            Edge.cursor(sentence, 10, 6, "\n\nabc~[" + end, "0,0");
            Edge.cursor(sentence, 10, 6, "\n\nabc~[1;1" + end, "0,0");
            Edge.cursor(sentence + ", at least 1", 10, 6, "\n\nabc~[0;0" + end, "0,0");
            Edge.cursor(sentence, 10, 6, "\n\nabc~[2" + end, "1,0");
            Edge.cursor(sentence, 10, 6, "\n\nabc~[;2" + end, "0,1");
            Edge.cursor(sentence, 10, 6, "~[6;10" + end, "5,9");
            Edge.cursor(sentence + ", or the last ones", 10, 6, "~[7;11" + end, "5,9");
            Edge.cursor(sentence + ", or the last ones", 10, 6, "~[999;999" + end, "5,9");
            Edge.cursor(sentence + ", out of the region", 10, 6, REGION + "~[6;10" + end, "5,9");
        }
        Edge.cursor("d: the row alone", 10, 6, "abc~[6d", "5,3");
        Edge.cursor("d: or the last one", 10, 6, "abc~[7d", "5,3");
        Edge.cursor("d: at least 1", 10, 6, "\n\nabc~[0d", "0,3");
        Edge.cursor("d: at least 1", 10, 6, "\n\nabc~[d", "0,3");
        Edge.cursor("d looks at no second number", 10, 6, "abc~[2;9d", "1,3");
    }

    private static void goingToPlacesWithOrigin() {
        String origin = REGION + "~[?6h";
        Edge.cursor("rows are counted from the top of the region", 10, 6, origin + "~[1;1H", "1,0");
        Edge.cursor("rows are counted from the top of the region", 10, 6, origin + "~[;2H", "1,1");
        Edge.cursor("rows are counted from the top of the region", 10, 6, origin + "~[2;4f", "2,3");
        Edge.cursor("and end at its bottom", 10, 6, origin + "~[3;10H", "3,9");
        Edge.cursor("and end at its bottom", 10, 6, origin + "~[4;11H", "3,9");
        Edge.cursor("and end at its bottom", 10, 6, origin + "~[999f", "3,0");
        Edge.cursor("d: likewise", 10, 6, origin + "ab~[d", "1,2");
        Edge.cursor("d: likewise", 10, 6, origin + "ab~[3d", "3,2");
        Edge.cursor("d: likewise", 10, 6, origin + "ab~[4d", "3,2");
        Edge.cursor("of the whole screen", 10, 6, "~[?6h~[9;9H", "5,8");
        Edge.cursor("A and B do not count from there", 10, 6, origin + "~[9B", "3,0");
    }

    private static void four(String sentence, String bytes, String screen, String cursor) {
        Edge.screen(sentence, 4, 4, FOUR + bytes, screen, cursor);
    }

    private static void plainScreens() {
        four("from the cursor on with 0", "~[1;1H~[J", "..../..../..../....", "0,0");
        four("from the cursor on with 0", "~[2;4H~[0J", "abcd/efg./..../....", "1,3");
        four("from the cursor on with 0, at the last cell", "~[4;4H~[J", "abcd/efgh/ijkl/mno.", "3,3");
        four("up to it, it too, with 1", "~[1;1H~[1J", ".bcd/efgh/ijkl/mnop", "0,0");
        four("up to it, it too, with 1", "~[3;1H~[1J", "..../..../.jkl/mnop", "2,0");
        four("up to it, it too, with 1, at the last cell", "~[4;4H~[1J", "..../..../..../....", "3,3");
        four("all with 2, by the first number", "~[2;2H~[2;9J", "..../..../..../....", "1,1");
        four("others do nothing", "~[2;2H~[3J~[4J~[999;2J", "abcd/efgh/ijkl/mnop", "1,1");
        four("out of the region, too", "~[2;3r~[1;1H~[J", "..../..../..../....", "0,0");
        Edge.kept("made plain, and not kept", 4, 4, FOUR + "~[2J", "");
    }

    private static void plainRows() {
        four("from the cursor on with 0", "~[2;1H~[K", "abcd/..../ijkl/mnop", "1,0");
        four("from the cursor on with 0", "~[2;4H~[0K", "abcd/efg./ijkl/mnop", "1,3");
        four("up to it, it too, with 1", "~[2;1H~[1K", "abcd/.fgh/ijkl/mnop", "1,0");
        four("up to it, it too, with 1", "~[2;4H~[1K", "abcd/..../ijkl/mnop", "1,3");
        four("all with 2", "~[2;4H~[2K", "abcd/..../ijkl/mnop", "1,3");
        four("others do nothing", "~[2;2H~[3K~[4K~[999K", "abcd/efgh/ijkl/mnop", "1,1");
        Panehouse h = Edge.fed(4, 1, "~[31mabcd~[2K");
        Due.is("plain has the mark 0, whatever is written with", h.mark(0, 0, 1), 0);
    }

    private static void plainCells() {
        four("X: n cells from the cursor on", "~[2;1H~[X", "abcd/.fgh/ijkl/mnop", "1,0");
        four("n is at least 1", "~[2;1H~[0X", "abcd/.fgh/ijkl/mnop", "1,0");
        four("n cells", "~[2;1H~[3X", "abcd/...h/ijkl/mnop", "1,0");
        four("as many as there are", "~[2;1H~[4X", "abcd/..../ijkl/mnop", "1,0");
        four("or as many as there are", "~[2;1H~[5X", "abcd/..../ijkl/mnop", "1,0");
        four("or as many as there are", "~[2;3H~[999X", "abcd/ef../ijkl/mnop", "1,2");
        four("at the last column", "~[2;4H~[X", "abcd/efg./ijkl/mnop", "1,3");
        Due.is("they have the mark 0", Edge.fed(4, 1, "~[31mabcd~[2G~[X").mark(0, 0, 1), 0);
    }

    private static void cellsIn() {
        four("'@' puts n plain cells in at the cursor", "~[2;1H~[@", "abcd/.efg/ijkl/mnop", "1,0");
        four("n is at least 1", "~[2;1H~[0@", "abcd/.efg/ijkl/mnop", "1,0");
        four("the others move right, and are lost", "~[2;2H~[2@", "abcd/e..f/ijkl/mnop", "1,1");
        four("all but the last one", "~[2;1H~[3@", "abcd/...e/ijkl/mnop", "1,0");
        four("all of them", "~[2;1H~[4@", "abcd/..../ijkl/mnop", "1,0");
        four("more than there are", "~[2;1H~[5@", "abcd/..../ijkl/mnop", "1,0");
        four("more than there are", "~[2;3H~[999@", "abcd/ef../ijkl/mnop", "1,2");
        four("at the last column", "~[2;4H~[@", "abcd/efg./ijkl/mnop", "1,3");
        Panehouse h = Edge.fed(4, 1, "~[31mab~[1G~[@");
        Due.is("they are plain, the others have their marks", h.mark(0, 0, 0) * 100 + h.mark(0, 0, 1), 8);
        Edge.screen("what is lost does not come again", 4, 1, "abcd~[1G~[2@~[2P", "ab..", "0,0");
        Panehouse wider = Edge.fed(6, 2, "~[?47habcdef~[1;3H~[2@");
        wider.resize(0, 10, 3);
        Due.is("what is lost does not come again", Bytes.row(wider, 0, 0), "ab..cd....");
        Edge.screen("more than there are, at the widest", 60, 1, "abc~[58Gxyz~[3G~[999@", "ab" + ".".repeat(58), "0,2");
    }

    private static void cellsAway() {
        four("P takes n away", "~[2;1H~[P", "abcd/fgh./ijkl/mnop", "1,0");
        four("n is at least 1", "~[2;1H~[0P", "abcd/fgh./ijkl/mnop", "1,0");
        four("plain ones come at the end", "~[2;2H~[2P", "abcd/eh../ijkl/mnop", "1,1");
        four("all but the last one", "~[2;1H~[3P", "abcd/h.../ijkl/mnop", "1,0");
        four("all of them", "~[2;1H~[4P", "abcd/..../ijkl/mnop", "1,0");
        four("more than there are", "~[2;1H~[5P", "abcd/..../ijkl/mnop", "1,0");
        four("more than there are", "~[2;3H~[999P", "abcd/ef../ijkl/mnop", "1,2");
        four("at the last column", "~[2;4H~[P", "abcd/efg./ijkl/mnop", "1,3");
        Edge.screen("at the widest", 60, 1, "a~[59Gyz~[1G~[P", "." + ".".repeat(56) + "yz.", "0,0");
        Edge.screen("at the widest", 60, 1, "ab~[59Gyz~[2G~[P", "a" + ".".repeat(56) + "yz.", "0,1");
    }

    /** No sign does what another one does, whatever its numbers mean to that. */
    private static void othersThanNamed() {
        for (char end : "ABCDGHfdJKX@PLMSTrmsunhl".toCharArray()) {
            for (String numbers : new String[] {"4", "5", "6", "4;6", "4;5", "6;4", "4;7", "2;3"}) {
                Panehouse h = Edge.fed(10, 8, "~[2;7r~[4;4H");
                int answered = Bytes.feed(h, 0, "~[" + numbers + end);
                char first = numbers.charAt(0);
                Due.is("n alone answers, " + numbers + end, answered > 0, end == 'n' && (first == '5' || first == '6'));
                Due.is("h alone turns on, " + numbers + end, h.state(0, 'i') == 1,
                        end == 'h' && numbers.indexOf('4') >= 0);
                Due.is("m alone is of the mark, " + numbers + end, h.state(0, 'm') > 0,
                        end == 'm' && (numbers.indexOf('4') >= 0 || numbers.indexOf('7') >= 0));
                boolean isSame = h.state(0, 't') == 1 && h.state(0, 'b') == 6;
                Due.is("r alone is of the region, " + numbers + end, isSame, end != 'r' || "6;4".equals(numbers));
                Panehouse on = Edge.fed(10, 8, "~[4h~[" + numbers + end);
                Due.is("l alone turns off, " + numbers + end, on.state(0, 'i') == 0,
                        end == 'l' && numbers.indexOf('4') >= 0);
            }
        }
    }

    private static void rowsIn() {
        four("L puts n plain rows in at its row", "~[2;2H~[L", "abcd/..../efgh/ijkl", "1,1");
        four("n is at least 1", "~[2;2H~[0L", "abcd/..../efgh/ijkl", "1,1");
        four("at row 0", "~[1;2H~[3L", "..../..../..../abcd", "0,1");
        four("all rows", "~[1;2H~[4L", "..../..../..../....", "0,1");
        four("more rows than there are", "~[1;2H~[5L", "..../..../..../....", "0,1");
        four("at the last row", "~[4;2H~[L", "abcd/efgh/ijkl/....", "3,1");
        four("lost behind the bottom", "~[2;3r~[2;2H~[L", "abcd/..../efgh/mnop", "1,1");
        four("at the bottom", "~[2;3r~[3;2H~[L", "abcd/efgh/..../mnop", "2,1");
        four("more than there are to the bottom", "~[2;3r~[2;2H~[9L", "abcd/..../..../mnop", "1,1");
        four("if the cursor is in the region, not above it", "~[2;3r~[1;2H~[L", "abcd/efgh/ijkl/mnop", "0,1");
        four("if the cursor is in the region, not below it", "~[2;3r~[4;2H~[L", "abcd/efgh/ijkl/mnop", "3,1");
        Edge.kept("L does not keep", 4, 4, FOUR + "~[1;1H~[4L", "");
    }

    private static void rowsAway() {
        four("M takes n away", "~[2;2H~[M", "abcd/ijkl/mnop/....", "1,1");
        four("n is at least 1", "~[2;2H~[0M", "abcd/ijkl/mnop/....", "1,1");
        four("at row 0", "~[1;2H~[3M", "mnop/..../..../....", "0,1");
        four("all rows", "~[1;2H~[4M", "..../..../..../....", "0,1");
        four("more rows than there are", "~[1;2H~[5M", "..../..../..../....", "0,1");
        four("at the last row", "~[4;2H~[M", "abcd/efgh/ijkl/....", "3,1");
        four("plain ones come at the bottom", "~[2;3r~[2;2H~[M", "abcd/ijkl/..../mnop", "1,1");
        four("at the bottom", "~[2;3r~[3;2H~[M", "abcd/efgh/..../mnop", "2,1");
        four("more than there are to the bottom", "~[2;3r~[2;2H~[9M", "abcd/..../..../mnop", "1,1");
        four("not above the region", "~[2;3r~[1;2H~[M", "abcd/efgh/ijkl/mnop", "0,1");
        four("not below the region", "~[2;3r~[4;2H~[M", "abcd/efgh/ijkl/mnop", "3,1");
        Edge.kept("M does not keep", 4, 4, FOUR + "~[1;1H~[4M", "");
    }

    private static void scrolling() {
        four("S scrolls up n times", "~[S", "efgh/ijkl/mnop/....", "3,3");
        four("n is at least 1", "~[0S", "efgh/ijkl/mnop/....", "3,3");
        four("as many as the region has rows less 1", "~[3S", "mnop/..../..../....", "3,3");
        four("as many as the region has rows", "~[4S", "..../..../..../....", "3,3");
        Edge.kept("as many as the region has rows", 4, 4, FOUR + "~[4S", "abcd+/efgh+/ijkl+/mnop");
        Edge.kept("as many as the region has rows at most", 4, 4, FOUR + "~[5S", "abcd+/efgh+/ijkl+/mnop");
        Edge.kept("as many as the region has rows at most", 4, 4, FOUR + "~[1;2r~[999S", "abcd+/efgh+");
        four("a region from row 0", "~[1;2r~[S", "efgh/..../ijkl/mnop", "0,0");
        four("a region whose top is not row 0", "~[2;3r~[2S", "abcd/..../..../mnop", "0,0");
        Edge.kept("a region whose top is not row 0", 4, 4, FOUR + "~[2;3r~[2S", "");
        four("T scrolls down n times", "~[T", "..../abcd/efgh/ijkl", "3,3");
        four("n is at least 1", "~[0T", "..../abcd/efgh/ijkl", "3,3");
        four("as many as the region has rows less 1", "~[3T", "..../..../..../abcd", "3,3");
        four("as many as the region has rows", "~[4T", "..../..../..../....", "3,3");
        four("as many as the region has rows at most", "~[5T", "..../..../..../....", "3,3");
        four("a region whose top is not row 0", "~[2;3r~[T", "abcd/..../efgh/mnop", "0,0");
        four("a region whose top is not row 0", "~[2;3r~[9T", "abcd/..../..../mnop", "0,0");
        Edge.kept("T does not keep", 4, 4, FOUR + "~[4T", "");
    }

    private static void region(String sentence, String bytes, String due) {
        Edge.region(sentence, 4, 4, "ab\n" + bytes, due);
        boolean isNone = sentence.startsWith("otherwise");
        Edge.cursor(sentence + ", the cursor", 4, 4, "ab\n" + bytes, isNone ? "1,2" : "0,0");
    }

    private static void regions() {
        region("without numbers", "~[r", "0-3");
        region("the first number, at least 1, less 1", "~[0;2r", "0-1");
        region("to the second one, less 1", "~[1;2r", "0-1");
        region("to the second one, less 1", "~[3;4r", "2-3");
        region("or the last row if it is 0", "~[2;0r", "1-3");
        region("or the last row if it is 0", "~[2r", "1-3");
        region("or the last row if it is above", "~[2;5r", "1-3");
        region("or the last row if it is above", "~[2;999r", "1-3");
        region("the last two rows", "~[3r", "2-3");
        region("a whole one again", "~[2;3r~[r", "0-3");
        Edge.cursor("with origin on of the top", 4, 4, "~[?6h~[2;3r", "1,0");
        Edge.cursor("with origin on of the top", 4, 4, "~[?6h~[3r", "2,0");
    }

    private static void regionsThatAreNone() {
        region("otherwise nothing: the first one is the second one", "~[2;2r", "0-3");
        region("otherwise nothing: the first one is row 0", "~[1;1r", "0-3");
        region("otherwise nothing: the first one is above the second one", "~[3;2r", "0-3");
        region("otherwise nothing: the first one is the last row", "~[4r", "0-3");
        region("otherwise nothing: the first one is behind the last row", "~[5r", "0-3");
        region("otherwise nothing: both are behind the last row", "~[8;9r", "0-3");
        region("otherwise nothing: five numbers", "~[1;2;3;4;5r", "0-3");
        region("otherwise nothing: with '?'", "~[?1;2r", "0-3");
        Edge.cursor("a screen of one row has no other region", 4, 1, "ab~[r", "0,2");
        Edge.region("a screen of one row has no other region", 4, 1, "~[1;1r", "0-0");
        Edge.region("the region ahead of this stays", 4, 4, "~[2;3r~[4;2r", "1-2");
    }

    private static void mark(String sequence, int due) {
        Edge.state("m, by each number", 4, 1, sequence, 'm', due);
    }

    private static void marks() {
        mark("~[1;4;7;31m~[m", 0);
        mark("~[1;4;7;31m~[0m", 0);
        mark("~[1;4;7;31m~[;1m", 1);
        mark("~[1;4;7;31m~[1;0m", 0);
        mark("~[1m~[4m~[7m", 7);
        mark("~[1;1m", 1);
        mark("~[22m", 0);
        mark("~[24;27m", 0);
        mark("~[1;4;7m~[22m", 6);
        mark("~[1;4;7m~[24m", 5);
        mark("~[1;4;7m~[27m", 3);
        for (int other = 0; other < 50; other++) {
            if (" 0 1 4 7 22 24 27 30 31 32 33 34 35 36 37 39 ".indexOf(" " + other + " ") < 0) {
                mark("~[1;4;7;35m~[" + other + "m", 47);
            }
        }
        mark("~[1;4;7;35m~[100;130;999m", 47);
    }

    private static void colours() {
        for (int colour = 0; colour < 8; colour++) {
            mark("~[3" + colour + "m", 8 * colour);
            mark("~[1;37;3" + colour + "m", 8 * colour + 1);
        }
        mark("~[7;37;39m", 4);
        mark("~[29m", 0);
        mark("~[38m", 0);
        mark("~[40m", 0);
    }

    private static void saving() {
        Edge.cursor("s saves, u restores", 6, 4, "~[2;3H~[s~[H~[u", "1,2");
        Edge.cursor("whether it waits", 4, 2, "abcd~[s~[H~[u", "0,3w");
        Edge.cursor("whether it waits not", 4, 2, "~[4G~[s~[Habcd~[u", "0,3");
        Edge.state("and the mark", 4, 2, "~[1;37m~[s~[m~[u", 'm', 57);
        Edge.cursor("one saved place, of 7 and s", 6, 4, "~[2;3H~7~[3;4H~[s~8", "2,3");
        Edge.cursor("nothing is saved", 6, 4, "~[2;3H~[u", "0,0");
        Edge.cursor("it stays as it is restored", 6, 4, "~[2;3H~[s~[u~[H~[u", "1,2");
        Edge.cursor("u does not look at the region, or origin", 6, 4, "~[4;3H~[s~[1;2r~[?6h~[u", "3,2");
        int[][] sizes = {{6, 4}, {5, 4}, {7, 4}, {6, 3}, {6, 2}, {4, 1}};
        String[] due = {"3,5w", "3,4w", "3,5", "2,5w", "1,5w", "0,3w"};
        for (int i = 0; i < sizes.length; i++) {
            Panehouse h = Edge.fed(6, 4, "~[4;1Habcdef~[s~[1;1H");
            h.resize(0, sizes[i][0], sizes[i][1] + 1);
            Bytes.feed(h, 0, "~[u");
            Due.is("as far as there are rows and columns " + i, Bytes.cursor(h, 0), due[i]);
        }
    }

    private static String answerTo(String bytes) {
        Panehouse h = Bytes.house(12, 12);
        int many = Bytes.feed(h, 0, bytes);
        return Bytes.answers(h, 0, many);
    }

    private static void answers() {
        Due.is("5", answerTo("~[5n"), "~[0n");
        Due.is("by the first number", answerTo("~[5;6n~[6;5n"), "~[0n~[1;1R");
        Due.is("others", answerTo("~[n~[0n~[4n~[7n~[;5n~[?5n~[?6n~[:5n"), "");
        Due.is("from 1", answerTo("~[6n"), "~[1;1R");
        Due.is("of two digits", answerTo("~[99;99H~[6n"), "~[12;12R");
        Due.is("of a cursor that waits", answerTo("abcdefghijkl~[6n"), "~[1;12R");
        Due.is("with origin on from the top of the region", answerTo("~[3;9r~[?6h~[6n"), "~[1;1R");
        Due.is("with origin on from the top of the region", answerTo("~[3;9r~[?6h~[99d~[6n"), "~[7;1R");
        Due.is("with origin off", answerTo("~[3;9r~[9d~[6n"), "~[9;1R");
    }

    private static void roomForAnswers() {
        Panehouse h = Bytes.house(12, 12);
        for (int i = 1; i <= 50; i++) {
            Due.is("at most 200 bytes", Bytes.feed(h, 0, "~[5n"), 4 * i);
        }
        Due.is("at most 200 bytes", Bytes.feed(h, 0, "~[5n~[6n"), 200);
        for (int left = 199; left >= 197; left--) {
            h.answer(0);
            Due.is("an answer without room for all of it is dropped", Bytes.feed(h, 0, "~[5n~[6n"), left);
        }
        h.answer(0);
        Due.is("room for just all of it", Bytes.feed(h, 0, "~[6n~[5n"), 200);
        for (int i = 0; i < 5; i++) {
            h.answer(0);
        }
        Due.is("no room for six", Bytes.feed(h, 0, "~[6n"), 195);
        h.answer(0);
        Due.is("room for six", Bytes.feed(h, 0, "~[6n"), 200);
        Due.is("in their order", Bytes.answers(h, 0, 200).substring(182), "~[0n~[0n~[0n~[1;1R");
        Due.noSuchElement("none is left", () -> h.answer(0));
        Due.is("room for all again", Bytes.feed(h, 0, "~[5n"), 4);
    }

    private static String modesOf(String bytes) {
        Panehouse h = Edge.fed(6, 4, bytes);
        StringBuilder all = new StringBuilder();
        for (char what : "iovsa".toCharArray()) {
            all.append(h.state(0, what));
        }
        return all.toString();
    }

    private static void modes() {
        Due.is("at first", modesOf(""), "00110");
        Due.is("4 inserting", modesOf("~[4h"), "10110");
        Due.is("4 inserting, off", modesOf("~[4h~[4l"), "00110");
        Due.is("6 origin", modesOf("~[?6h"), "01110");
        Due.is("6 origin, off", modesOf("~[?6h~[?6l"), "00110");
        Due.is("7 wrapping, off", modesOf("~[?7l"), "00010");
        Due.is("7 wrapping", modesOf("~[?7l~[?7h"), "00110");
        Due.is("25 showing, off", modesOf("~[?25l"), "00100");
        Due.is("25 showing", modesOf("~[?25l~[?25h"), "00110");
        Due.is("47 the second screen", modesOf("~[?47h"), "00111");
        Due.is("47 the first one", modesOf("~[?47h~[?47l"), "00110");
        Due.is("by each number", modesOf("~[?6;7;25;47l~[0;1;2;4h~[?47;6h"), "11001");
        Due.is("on, as it is already", modesOf("~[?7;25h~[4l~[?6;47l"), "00110");
        Edge.cursor("6, the cursor going where it goes by r", 6, 4, "~[2;3r~[4;4H~[?6h", "1,0");
        Edge.cursor("6, though it is so already", 6, 4, "~[2;3r~[?6h\n~[?6h", "1,0");
        Edge.cursor("6, off", 6, 4, "~[2;3r~[?6h\n~[?6l", "0,0");
        Edge.cursor("6, off, though it is so already", 6, 4, "~[4;4H~[?6l", "0,0");
        Edge.cursor("6, from a cursor that waits", 4, 4, "\nabcd~[?6h", "0,0");
    }

    private static void otherModes() {
        for (int number = 0; number < 60; number++) {
            if (number != 4) {
                Due.is("h without '?'", modesOf("~[" + number + "h"), "00110");
                Due.is("l without '?'", modesOf("~[4h~[" + number + "l"), "10110");
            }
            if (number != 6 && number != 7 && number != 25 && number != 47) {
                Due.is("with '?' nothing else does anything", modesOf("~[?" + number + "h~[?" + number + "l"), "00110");
            }
        }
        Due.is("without a number", modesOf("~[h~[l~[?h~[?l"), "00110");
        Due.is("five numbers", modesOf("~[4;4;4;4;4h"), "00110");
        for (char end = 64; end <= 126; end++) {
            if (end != 'h' && end != 'l') {
                Panehouse h = Edge.fed(4, 2, "abcd~[2;1Hefgh~[?");
                long before = h.checksum(0);
                h.feedMore(0, 3, '2', '5', end, 0, 0, 0, 0, 0);
                Due.is("with '?' nothing else does anything, " + end, h.checksum(0), before);
            }
        }
    }

    private static void secondScreen() {
        Edge.screen("with h the second screen is in use, plain", 4, 2, "abcde~[?47h", "..../....", "0,0");
        Edge.screen("if it is not so", 4, 2, "~[?47habcde~[?47h", "abcd/e...", "1,1");
        Edge.cursor("if it is not so, though it waits", 4, 2, "~[?47habcd~[?47h", "0,3w");
        Edge.screen("plain each time", 4, 2, "~[?47habcde~[?47l~[?47h", "..../....", "0,0");
        Edge.screen("with l the first one, as it was", 4, 2, "abcd~[?47hxy\n~[?47l", "abcd/....", "0,3w");
        Edge.onward("with l the first one, as it was", 4, 2, "abcde~[?47hxy~[2J~[?47l", "10");
        Edge.screen("with l, if it is not so", 4, 2, "abc~[?47l", "abc./....", "0,3");
        Edge.state("its rows are not kept", 4, 2, "~[?47ha\n\n\n~[3S~[?47l", 'p', 0);
        Edge.region("the region is one for both", 4, 3, "~[2;3r~[?47h", "1-2");
        Edge.state("the mark is one for both", 4, 3, "~[31m~[?47h", 'm', 8);
        Edge.cursor("the saved place is one for both", 4, 3, "~[2;3H~7~[?47h~8", "1,2");
        Edge.screen("the first one's cursor is out of use", 4, 3, "ab~[?47h~[3;3Hx~[?47lc", "abc./..../....", "0,3");
    }
}
