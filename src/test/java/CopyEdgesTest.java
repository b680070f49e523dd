import java.math.BigInteger;

/** The boundary cases of part 8 and of promises 33 to 40, each beside the sentence that names it. */
public final class CopyEdgesTest {
    private CopyEdgesTest() {
    }

    public static void main(String[] args) {
        fromAPlaceToAnother();
        blanksAtTheEnd();
        rowsThatGoOn();
        rowsThatScrolledAway();
        secondScreen();
        fourHundred();
        fourHundredWithLineEnds();
        otherPlaceAhead();
        noSuchPlace();
        inPlaceOfWhatWasCopied();
        copiedBytes();
        pasting();
        pastingWithoutRoom();
        shares();
        means();
        sumsThatGoRound();
        sumsOfShownCells();
        soundness();
        Due.end();
    }

    private static void is(String what, Panehouse h, int many, String text) {
        Due.is(what, Bytes.copied(h, many), text);
        Due.is(what + ", how many", many, text.length());
        Due.noSuchElement(what + ", not so many", () -> h.copied(many));
    }

    private static void fromAPlaceToAnother() {
        Panehouse h = Edge.fed(4, 3, "abcd\r\nef\r\nghij");
        is("to the same place", h, h.copy(0, 0, 0, 0, 0), "a");
        is("to the same place, the last one", h, h.copy(0, 2, 3, 2, 3), "j");
        is("up to the other place, it too", h, h.copy(0, 0, 1, 0, 2), "bc");
        is("a whole row is the last one, and has no 10", h, h.copy(0, 0, 0, 0, 3), "abcd");
        is("in each row up to its last column", h, h.copy(0, 0, 3, 1, 0), "d/e");
        is("all", h, h.copy(0, 0, 0, 2, 3), "abcd/ef/ghij");
    }

    private static void blanksAtTheEnd() {
        Panehouse h = Edge.fed(4, 4, " a b\r\n c\r\n\r\n~[7m  ");
        is("blanks at its end are left out", h, h.copy(0, 1, 0, 2, 0), ".c/.");
        is("behind the last one they are not", h, h.copy(0, 0, 0, 1, 3), ".a.b/.c..");
        is("from a blank at its end", h, h.copy(0, 1, 2, 2, 0), "/.");
        is("from the last column", h, h.copy(0, 1, 3, 2, 0), "/.");
        is("a row without signs", h, h.copy(0, 2, 0, 3, 0), "/.");
        is("only the last row's, one plain", h, h.copy(0, 2, 1, 2, 3), "...");
        is("others stay", h, h.copy(0, 0, 2, 1, 0), ".b/.");
        Bytes.feed(h, 0, "~[4;4H~[7m ~[1;1H~[m");
        h.resize(0, 4, 6);
        is("blanks with a mark are blanks", h, h.copy(0, 3, 0, 4, 0), "/.");
    }

    private static void rowsThatGoOn() {
        Panehouse h = Edge.fed(4, 3, "ab  cd");
        is("behind each row that does not go on", h, h.copy(0, 0, 0, 2, 0), "ab..cd/.");
        is("a row that goes on is the last one", h, h.copy(0, 0, 0, 0, 3), "ab..");
        is("from a blank at its end", h, h.copy(0, 0, 3, 1, 0), ".c");
        Panehouse last = Edge.fed(4, 3, "~[1;2r~[3;1Habcde");
        is("the last row goes on", last, last.copy(0, 1, 0, 2, 3), "/ebcd");
    }

    private static void rowsThatScrolledAway() {
        Panehouse h = Edge.fed(4, 1, "abcdef\r\ng\r\nhijkl");
        Due.is("kept", h.state(0, 'p'), 4);
        is("from -1 back", h, h.copy(0, -4, 0, 0, 0), "abcdef/g/hijkl");
        is("the eldest one alone", h, h.copy(0, -4, 0, -4, 3), "abcd");
        is("the youngest one goes on in row 0", h, h.copy(0, -1, 3, 0, 0), "kl");
        Due.outOfBounds("no such row", () -> h.copy(0, -5, 0, 0, 0));
        Due.outOfBounds("no such row", () -> h.copy(0, -5, 0, -5, 0));
        Due.outOfBounds("no such row", () -> h.copy(0, -4, 0, 1, 0));
    }

    private static void secondScreen() {
        Panehouse h = Edge.fed(4, 2, "x\r\n\r\n\r\n~[?47habcde");
        is("rows of a pane's screen in use, that do not go on", h, h.copy(0, 0, 0, 1, 0), "abcd/e");
        Due.outOfBounds("those that scrolled away, if that is the first one", () -> h.copy(0, -1, 0, 0, 0));
        Bytes.feed(h, 0, "~[?47l");
        is("that is the first one again", h, h.copy(0, -2, 0, -1, 0), "x/.");
    }

    private static void fourHundred() {
        Panehouse h = Bytes.house(40, 12);
        Bytes.feed(h, 0, "0123456789".repeat(44));
        is("400 bytes", h, h.copy(0, 0, 0, 9, 39), "0123456789".repeat(40));
        Due.illegalState("more than 400", () -> h.copy(0, 0, 0, 10, 0));
        Due.illegalState("far more than 400", () -> h.copy(0, 0, 0, 10, 39));
        is("400 bytes, from another place", h, h.copy(0, 0, 1, 10, 0), "123456789" + "0123456789".repeat(39) + "0");
        Due.is("399 bytes", h.copy(0, 0, 1, 9, 39), 399);
        Panehouse all = Bytes.house(60, 23);
        Bytes.feed(all, 0, "x".repeat(60 * 60));
        Due.illegalState("all there is", () -> all.copy(0, -37, 0, 22, 59));
        Due.noSuchElement("nothing is copied", () -> all.copied(0));
    }

    private static void fourHundredWithLineEnds() {
        Panehouse h = Bytes.house(40, 12);
        for (int i = 0; i < 10; i++) {
            Bytes.feed(h, 0, "x".repeat(39) + "\r\n");
        }
        Due.is("400 bytes with a 10 behind each row, and one less", h.copy(0, 0, 1, 10, 0), 400);
        Due.illegalState("401 bytes", () -> h.copy(0, 0, 0, 10, 0));
        Due.is("as before", h.copied(398), 10);
        Due.is("blanks that are left out do not count", h.copy(0, 1, 0, 10, 39), 9 * 40 + 40);
        Due.illegalState("the last one's do", () -> h.copy(0, 0, 39, 10, 39));
        Due.is("rows without signs", h.copy(0, 10, 0, 11, 39), 41);
    }

    private static void otherPlaceAhead() {
        Panehouse h = Edge.fed(4, 2, "ab\r\ncd\r\nef");
        Due.illegalArgument("ahead in its row", () -> h.copy(0, 0, 2, 0, 1));
        Due.illegalArgument("in the row ahead", () -> h.copy(0, 1, 0, 0, 3));
        Due.illegalArgument("in what scrolled away", () -> h.copy(0, 0, 0, -1, 3));
        Due.illegalArgument("in what scrolled away", () -> h.copy(0, -1, 1, -1, 0));
        Panehouse full = Bytes.house(60, 23);
        Bytes.feed(full, 0, "x".repeat(60 * 23));
        Due.illegalArgument("ahead, and far away", () -> full.copy(0, 22, 59, 0, 0));
        Due.outOfBounds("ahead, and no such column", () -> full.copy(0, 22, 59, 0, 60));
    }

    private static void noSuchPlace() {
        Panehouse h = Edge.fed(4, 2, "abcdefgh");
        int[][] wrong = {{1, 0, 0, 0, 0}, {-1, 0, 0, 0, 0}, {8, 0, 0, 0, 0}, {0, 2, 0, 2, 0}, {0, -1, 0, 0, 0},
            {0, 0, 4, 1, 0}, {0, 0, -1, 0, 0}, {0, 0, 0, 2, 0}, {0, 0, 0, 1, 4}, {0, 1, 0, 1, -1}, {0, 1, 0, -1, 0},
            {0, Integer.MIN_VALUE, 0, Integer.MAX_VALUE, 0}, {0, 0, Integer.MIN_VALUE, 0, Integer.MAX_VALUE}};
        for (int[] w : wrong) {
            Due.outOfBounds("no such pane, row or column, for either", () -> h.copy(w[0], w[1], w[2], w[3], w[4]));
        }
        Due.noSuchElement("nothing is copied", () -> h.copied(0));
    }

    private static void inPlaceOfWhatWasCopied() {
        Panehouse h = Edge.fed(4, 2, "abcd\r\nef");
        h.copy(0, 0, 0, 1, 1);
        is("in place of what was copied", h, h.copy(0, 1, 1, 1, 1), "f");
        Due.illegalArgument("refused", () -> h.copy(0, 1, 1, 1, 0));
        is("as before", h, 1, "f");
        Bytes.feed(h, 0, "~c");
        h.window();
        h.close(0);
        is("the pane is gone", h, 1, "f");
        is("another pane", h, h.copy(1, 0, 0, 0, 2), "...");
    }

    private static void copiedBytes() {
        Panehouse h = Edge.fed(4, 2, "ab\r\ncd");
        Due.noSuchElement("nothing is copied at first", () -> h.copied(0));
        h.copy(0, 0, 0, 1, 1);
        int[] due = {'a', 'b', 10, 'c', 'd'};
        for (int i = 0; i < due.length; i++) {
            Due.is("from 0", h.copied(i), due[i]);
        }
        for (int index : new int[] {-1, 5, 400, Integer.MIN_VALUE, Integer.MAX_VALUE}) {
            Due.noSuchElement("there are not so many", () -> h.copied(index));
        }
    }

    private static void pasting() {
        Panehouse h = Edge.fed(4, 2, "ab\r\ncd");
        Due.is("nothing is copied", h.paste(0), 0);
        h.copy(0, 0, 0, 1, 1);
        h.key(0, 'x');
        Due.is("how many", h.paste(0), 5);
        StringBuilder text = new StringBuilder();
        for (int i = 0; i < 6; i++) {
            text.append(h.typed(0)).append(' ');
        }
        Due.is("13 for 10, behind what was typed", text.toString(), "120 97 98 13 99 100 ");
        Due.is("it stays copied", h.paste(0) * 100 + h.copied(2), 510);
        Due.outOfBounds("no such pane", () -> h.paste(1));
        Due.outOfBounds("no such pane", () -> h.paste(-1));
        h.key(0, 2);
        h.paste(0);
        Due.is("it is no command", h.key(0, '%'), 'c');
    }

    private static void pastingWithoutRoom() {
        Panehouse h = Bytes.house(40, 6);
        Bytes.feed(h, 0, "0123456789".repeat(21));
        h.copy(0, 0, 0, 4, 39);
        Due.is("200 at most", h.paste(0), 200);
        Due.is("no room", h.paste(0), 0);
        h.typed(0);
        h.typed(0);
        h.copy(0, 0, 5, 0, 7);
        Due.is("room for two", h.paste(0), 2);
        Due.is("200", h.state(0, 'y'), 200);
        for (int i = 0; i < 198; i++) {
            Due.is("the first byte", h.typed(0), '0' + (i + 2) % 10);
        }
        Due.is("then those there was room for", h.typed(0) * 100 + h.typed(0), '5' * 100 + '6');
        Due.is("there is room for all", h.paste(0), 3);
        h.split(0, true, 5);
        h.copy(0, 0, 0, 5, 18);
        Due.is("for each pane", h.paste(1), 114);
    }

    private static void shares() {
        Panehouse h = Bytes.house(4, 3);
        Due.is("all are plain", h.plainShare(0), 1f);
        Bytes.feed(h, 0, "x");
        Due.is("all but one", h.plainShare(0), (float) 11 / (float) 12);
        Bytes.feed(h, 0, " ");
        Due.is("a blank without a mark is plain", h.plainShare(0), (float) 11 / (float) 12);
        Bytes.feed(h, 0, "~[31m ");
        Due.is("a blank with a mark is not", h.plainShare(0), (float) 10 / (float) 12);
        Bytes.feed(h, 0, "~[Habcdefghijkl");
        Due.is("none is plain", h.plainShare(0), 0f);
        Bytes.feed(h, 0, "~[?47h");
        Due.is("of the screen in use", h.plainShare(0), 1f);
        Due.outOfBounds("no such pane", () -> h.plainShare(1));
        Due.outOfBounds("no such pane", () -> h.plainShare(-1));
        h.split(0, true, 1);
        Bytes.feed(h, 0, "x");
        Due.is("of a pane of two columns", h.plainShare(0), (float) 5 / (float) 6);
    }

    private static void means() {
        Panehouse h = new Panehouse();
        Due.throwing("there are no windows", ArithmeticException.class, h::meanPanes);
        h.window();
        Due.is("one of each", h.meanPanes(), 1.0);
        for (int i = 1; i < 8; i++) {
            h.split(0, true, 5);
            Due.is("of one window", h.meanPanes(), (double) (i + 1));
        }
        h.close(7);
        h.close(6);
        h.window();
        h.window();
        Due.is("no whole number", h.meanPanes(), 8.0 / 3.0);
    }

    /** A sum as the document tells it, without an end, and gone round only then. */
    private static long goneRound(int... parts) {
        BigInteger sum = BigInteger.valueOf(7);
        for (int part : parts) {
            sum = sum.multiply(BigInteger.valueOf(31)).add(BigInteger.valueOf(part));
        }
        return sum.longValue();
    }

    private static void sumsThatGoRound() {
        Panehouse h = Edge.fed(4, 2, "~[31mabcdefghijkl~[m~[?47h~[2;1H~[7mwxyz");
        int[] parts = {1, 1, 'a', 8, 'b', 8, 'c', 8, 'd', 8, 1, 'e', 8, 'f', 8, 'g', 8, 'h', 8, 0, 'i', 8, 'j', 8, 'k',
            8, 'l', 8, 0, 32, 0, 32, 0, 32, 0, 32, 0, 0, 'w', 4, 'x', 4, 'y', 4, 'z', 4, 1, 3, 1};
        Due.is("how many rows are kept, then these, the first screen, the second one, the cursor in use", h.checksum(0),
                goneRound(parts));
        Bytes.feed(h, 0, "~[?47l");
        parts[parts.length - 3] = 1;
        Due.is("of the first one", h.checksum(0), goneRound(parts));
        Bytes.feed(h, 0, "~[1;2H");
        parts[parts.length - 3] = 0;
        parts[parts.length - 2] = 1;
        parts[parts.length - 1] = 0;
        Due.is("not waiting", h.checksum(0), goneRound(parts));
        Due.is("it goes round", new BigInteger("31").pow(parts.length).bitLength() > 64, true);
        Due.outOfBounds("no such pane", () -> h.checksum(1));
        Due.outOfBounds("no such pane", () -> h.checksum(8));
    }

    private static void sumsOfShownCells() {
        Panehouse h = Edge.fed(4, 2, "~[31mab\r\nc");
        int[] parts = {32, 0, 32, 0, 32, 0, 32, 0, 32, 0, 32, 0, 32, 0, 32, 0, 32, 0, 32, 0, 32, 0, 32, 0, -1, -1};
        Due.is("-1 and -1 for none", h.shownSum(0), goneRound(parts));
        h.redraw(0);
        int[] drawn = {'a', 8, 'b', 8, 32, 0, 32, 0, 'c', 8, 32, 0, 32, 0, 32, 0, '0', 4, '*', 4, 32, 4, 32, 4, 1, 1};
        Due.is("row by row, then the row and the column of the cursor", h.shownSum(0), goneRound(drawn));
        Bytes.feed(h, 0, "d~[?25l");
        Due.is("what it shows, not what is to be seen", h.shownSum(0), goneRound(drawn));
        h.redraw(0);
        drawn[10] = 'd';
        drawn[11] = 8;
        drawn[24] = -1;
        drawn[25] = -1;
        Due.is("no cursor any more", h.shownSum(0), goneRound(drawn));
        Due.outOfBounds("no such client", () -> h.shownSum(1));
        Due.outOfBounds("no such client", () -> h.shownSum(-1));
    }

    private static void soundness() {
        Panehouse h = new Panehouse();
        Due.is("without windows", h.isSound(), true);
        h.window();
        h.attach(60, 24);
        Due.is("the greatest", h.isSound(), true);
        Bytes.feed(h, 0, "x".repeat(60 * 23));
        h.redraw(0);
        Due.is("all cells are sent, and the cursor waits", h.isSound(), true);
        for (int i = 0; i < 30; i++) {
            Bytes.feed(h, 0, "~[" + (i % 23 + 1) + ";" + (2 * i + 1) + "H~[3" + i % 8 + ";"
                    + i % 5 + "m" + (char) ('a' + i % 26));
        }
        h.redraw(0);
        Due.is("cells here and there are sent", h.isSound(), true);
        h.attach(4, 2);
        Due.is("the least", h.isSound(), true);
        for (int i = 1; i < 8; i++) {
            h.split(i / 2, i % 2 == 0, i);
        }
        Due.is("greater than the client", h.isSound(), true);
        h.zoom(0);
        Due.is("zoomed", h.isSound(), true);
        h.redraw(1);
        Due.is("redrawn", h.isSound(), true);
    }
}
