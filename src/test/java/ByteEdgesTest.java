/** The boundary cases of parts 1 and 2, each beside the sentence that names it. */
public final class ByteEdgesTest {
    private static final String PLAIN_BYTES = "\u0007\b\t\n\r\u001b";

    private ByteEdgesTest() {
    }

    public static void main(String[] args) {
        atFirst();
        outsideOfSequences();
        othersLeaveWaiting();
        back();
        tabs();
        down();
        returns();
        escapes();
        otherEscapes();
        asAtFirst();
        endsOfSequences();
        spoilingBytes();
        digits();
        manyNumbers();
        asking();
        bytesInside();
        writingBehindTheLastColumn();
        writingWithoutWrapping();
        inserting();
        up();
        scrollingUp();
        scrollingDown();
        fortyRows();
        goingOnNoMore();
        Due.end();
    }

    private static void atFirst() {
        Edge.screen("all cells are plain, and the cursor at 0 and 0, at first", 4, 2, "", "..../....", "0,0");
        Edge.onward("a plain one does not", 4, 2, "", "00");
        Edge.region("the whole screen at first", 4, 1, "", "0-0");
        Edge.region("the whole screen at first", 4, 23, "", "0-22");
        Edge.screen("one saved place, 0 and 0 with the mark 0", 4, 2, "~[31mab~8x", "xb../....", "0,1");
        Edge.state("one saved place, 0 and 0 with the mark 0", 4, 2, "~[31mabcd~8", 'm', 0);
        Edge.cursor("not waiting, at first", 4, 2, "abcd~8", "0,0");
        Edge.state("a mark, 0 to 63", 4, 2, "~[1;4;7;37m", 'm', 63);
        Due.is("a mark, 0 to 63", Edge.fed(4, 2, "~[1;4;7;37m ").mark(0, 0, 0), 63);
    }

    /** Each byte on its own, behind one sign. */
    private static void outsideOfSequences() {
        for (int sign = 0; sign <= 255; sign++) {
            if (PLAIN_BYTES.indexOf(sign) < 0) {
                boolean isWritten = sign >= 32 && sign <= 126;
                Panehouse h = Edge.fed(4, 2, "a");
                h.feed(0, sign);
                Due.is("32 to 126 is written, " + sign, h.cell(0, 0, 1), isWritten ? sign : ' ');
                Due.is("others do nothing, " + sign, Bytes.cursor(h, 0), isWritten ? "0,2" : "0,1");
                h.feed(0, 'b');
                Due.is("no sequence is begun by " + sign, h.cell(0, 0, isWritten ? 2 : 1), 'b');
            }
        }
    }

    private static void othersLeaveWaiting() {
        for (int sign = 0; sign <= 255; sign++) {
            if ("\b\t\n\r".indexOf(sign) < 0 && (sign < 32 || sign > 126)) {
                Panehouse h = Edge.fed(4, 2, "abcd");
                h.feed(0, sign);
                Due.is("these four end waiting, not " + sign, Bytes.cursor(h, 0), "0,3w");
                Due.is("7 is counted as a bell, not " + sign, h.state(0, 'k'), sign == 7 ? 1 : 0);
            }
        }
        Edge.screen("others do nothing, so that it wraps then", 4, 2, "abcd\u0007\u0000\u007f\u00ffe", "abcd/e...",
                "1,1");
    }

    private static void back() {
        Edge.cursor("8 goes one column back", 4, 2, "abc\b", "0,2");
        Edge.cursor("8 goes one column back", 4, 2, "a\b", "0,0");
        Edge.cursor("if there is one", 4, 2, "\b", "0,0");
        Edge.cursor("if there is one, not to the row above", 4, 2, "\n\b", "1,0");
        Edge.cursor("8 from the last column, ending waiting", 4, 2, "abcd\b", "0,2");
        Edge.cursor("8 from the last column", 4, 2, "~[4G\b", "0,2");
        Edge.screen("8 leaves the cells", 4, 2, "ab\b\b\bx", "xb../....", "0,1");
    }

    private static void tabs() {
        Edge.cursor("9 to the next column that 8 divides", 20, 1, "\t", "0,8");
        Edge.cursor("9 from one ahead of it", 20, 1, "~[8G\t", "0,8");
        Edge.cursor("9 from a column that 8 divides", 20, 1, "~[9G\t", "0,16");
        Edge.cursor("9 from one behind it", 20, 1, "~[10G\t", "0,16");
        Edge.cursor("or the last one", 20, 1, "~[17G\t", "0,19");
        Edge.cursor("or the last one, from itself", 20, 1, "~[20G\t", "0,19");
        Edge.cursor("9 ends waiting", 4, 2, "abcd\t", "0,3");
        Edge.cursor("or the last one, with 8 columns", 8, 1, "\t", "0,7");
        Edge.cursor("the last one is one that 8 divides", 9, 1, "\t\t", "0,8");
        Edge.cursor("the last one is behind one that 8 divides", 10, 1, "\t", "0,8");
        Edge.cursor("or the last one", 4, 1, "\t", "0,3");
        Edge.cursor("up to the widest", 60, 1, "\t\t\t\t\t\t\t", "0,56");
        Edge.cursor("up to the widest", 60, 1, "\t\t\t\t\t\t\t\t", "0,59");
        Edge.screen("9 leaves the cells", 10, 1, "ab\r\tx", "ab......x.", "0,9");
    }

    private static void down() {
        Edge.screen("10 down, in the same column", 4, 3, "a\nb", "a.../.b../....", "1,2");
        Edge.screen("at the bottom this scrolls up by 1", 4, 2, "a\nb\n", ".b../....", "1,2");
        Edge.kept("at the bottom this scrolls up by 1", 4, 2, "a\nb\n", "a...");
        Edge.screen("with one row", 4, 1, "a\n", "....", "0,1");
        Edge.kept("with one row", 4, 1, "a\n", "a...");
        Edge.cursor("10 ends waiting", 4, 2, "abcd\n", "1,3");
        Edge.cursor("10 ends waiting, at the bottom, too", 4, 1, "abcd\n", "0,3");
        Edge.screen("to the next row, if there is one", 4, 3, "~[1;2r~[3;1Ha\n\n", "..../..../a...", "2,1");
        Edge.cursor("it ends waiting without a next row, too", 4, 3, "~[1;2r~[3;1Habcd\n", "2,3");
        Edge.cursor("above the region to the next row", 4, 4, "~[3;4r\n", "1,0");
        Edge.screen("at its bottom, above the last row", 4, 3, "a~[1;2r~[2;1Hb\n", "b.../..../....", "1,1");
        Edge.cursor("below its bottom", 4, 4, "~[1;2r~[3;1H\n", "3,0");
    }

    private static void returns() {
        Edge.cursor("13 to the column 0", 4, 2, "abc\r", "0,0");
        Edge.cursor("13 from the column 0", 4, 2, "\n\r", "1,0");
        Edge.cursor("13 ends waiting", 4, 2, "abcd\r", "0,0");
        Edge.screen("13 ends waiting", 4, 2, "abcd\re", "ebcd/....", "0,1");
    }

    private static void escapes() {
        Edge.cursor("'D' goes down", 4, 3, "ab~D", "1,2");
        Edge.screen("'D' at the bottom", 4, 2, "a~[2d~D", "..../....", "1,1");
        Edge.kept("'D' at the bottom", 4, 2, "a~[2d~D", "a...");
        Edge.cursor("'D' ends waiting", 4, 2, "abcd~D", "1,3");
        Edge.cursor("'D' without a next row", 4, 3, "~[1;2r~[3;1H~D", "2,0");
        Edge.cursor("'M' up", 4, 3, "~[3;2H~M", "1,1");
        Edge.screen("'M' at the top", 4, 2, "a~M", "..../a...", "0,1");
        Edge.cursor("'M' ends waiting", 4, 2, "\nabcd~M", "0,3");
        Edge.cursor("'M' ends waiting at the top, too", 4, 2, "abcd~M", "0,3");
        Edge.cursor("'7' saves whether it waits, '8' restores that", 4, 2, "abcd~7\r~8", "0,3w");
        Edge.cursor("'7' saves without waiting", 4, 2, "abc~7d~8", "0,3");
        Edge.cursor("'7' does not end waiting", 4, 2, "abcd~7", "0,3w");
        Edge.state("'7' and '8', the mark", 4, 2, "~[31m~7~[m~8", 'm', 8);
    }

    /** Each byte from 32 on behind 27 that is not named. */
    private static void otherEscapes() {
        for (int sign = 32; sign <= 255; sign++) {
            if ("78DMc[".indexOf(sign) < 0) {
                Panehouse h = Edge.fed(4, 2, "abcd");
                h.feedMore(0, 2, 27, sign, 0, 0, 0, 0, 0, 0);
                Due.is("others, and bytes above 126, nothing: " + sign, Bytes.cursor(h, 0), "0,3w");
                h.feed(0, 'e');
                Due.is("the sequence is 27 and " + sign, Bytes.screen(h, 0), "abcd/e...");
            }
        }
    }

    private static void asAtFirst() {
        String all = "a\r\nb\r\n\u0007~[5n~[1;2r~[?6h~[4h~[?7;25l~[1;31mxyzw~7~c";
        Edge.screen("'c' makes all of the pane as at first", 4, 2, all, "..../....", "0,0");
        Edge.region("'c', the region", 4, 3, "~[2;3r~c", "0-2");
        Edge.kept("but what scrolled away", 4, 2, "abcdefghijkl~c", "abcd+");
        Edge.state("but bells", 4, 2, all, 'k', 1);
        Due.is("but answers", Edge.fed(4, 2, all).feed(0, 0), 4);
        Edge.screen("'c', the second screen", 4, 2, "abcd~[?47hef~c", "..../....", "0,0");
        Edge.state("'c', the first one is in use", 4, 2, "~[?47h~c", 'a', 0);
        Edge.screen("'c' makes the second one plain", 4, 2, "~[?47hef\n~c~[?47h", "..../....", "0,0");
        Edge.cursor("'c', waiting", 4, 2, "abcd~c", "0,0");
        Edge.onward("'c', going on", 4, 2, "abcde~c", "00");
        Edge.screen("'c', inserting, origin and wrapping", 4, 3, "~[2;3r~[4h~[?6h~[?7l~cabcd\b\bxyzw", "axyz/w.../....",
                "1,1");
        Edge.state("'c', the cursor is shown", 4, 2, "~[?25l~c", 's', 1);
        Edge.screen("'c' with one row", 4, 1, "abcd~[?47hef~c", "....", "0,0");
        Edge.state("'c', the mark", 4, 2, "~[1;31m~c", 'm', 0);
        Edge.cursor("'c', origin", 4, 3, "~[?6h~c~[2;3r", "0,0");
        Edge.state("'c', the mark of the saved place", 4, 2, "~[31m~7~c~8", 'm', 0);
        Edge.cursor("'c', the saved place", 4, 2, "abcd~7~c~8", "0,0");
    }

    private static void endsOfSequences() {
        Edge.screen("a sign from 64", 4, 1, "ab\r~[@x", "xab.", "0,1");
        Panehouse h = Bytes.house(4, 1);
        h.feedMore(0, 5, 27, '[', '2', 126, 'x', 0, 0, 0);
        Due.is("a sign to 126", Bytes.screen(h, 0), "x...");
        Edge.screen("63 is none", 10, 1, "~[2?Cx", "x.........", "0,1");
        Edge.screen("127 is none", 10, 1, "~[2\u007fCx", "x.........", "0,1");
        Edge.screen("'[' ends it, behind '['", 10, 1, "~[2[Cx", "Cx........", "0,2");
        Edge.screen("with which it ends", 10, 1, "~[2Cx~[Cy", "..x.y.....", "0,5");
    }

    private static void spoilingBytes() {
        for (int sign = 32; sign <= 255; sign++) {
            boolean isOther = sign < 64 ? "0123456789;?".indexOf(sign) < 0 : sign > 126;
            if (isOther) {
                Panehouse h = Bytes.house(10, 1);
                h.feedMore(0, 5, 27, '[', sign, '2', 'C', 0, 0, 0);
                Due.is("another byte from 32 on in it spoils it: " + sign, Bytes.cursor(h, 0), "0,0");
                h.feedMore(0, 5, 27, '[', '2', sign, 'C', 0, 0, 0);
                Due.is("it does nothing as it ends: " + sign, Bytes.cursor(h, 0), "0,0");
                h.feed(0, 'x');
                Due.is("it has ended: " + sign, Bytes.row(h, 0, 0), "x.........");
                Bytes.feed(h, 0, "~[2C");
                Due.is("the next one is not spoilt: " + sign, Bytes.cursor(h, 0), "0,3");
            }
        }
        Edge.cursor("it does nothing, and leaves waiting", 4, 2, "abcd~[:A", "0,3w");
    }

    private static void digits() {
        Edge.cursor("0 for one without digits", 10, 1, "~[C", "0,1");
        Edge.cursor("numbers of digits", 10, 1, "~[0C", "0,1");
        Edge.cursor("numbers of digits", 10, 1, "~[000000000000000000003C", "0,3");
        Edge.cursor("999", 60, 1, "~[999C", "0,59");
        Edge.cursor("999 for greater ones", 60, 1, "~[1000C", "0,59");
        Edge.cursor("999 for greater ones", 60, 1, "~[2147483648C", "0,59");
        Edge.cursor("999 for greater ones", 60, 1, "~[4294967298C", "0,59");
        Edge.cursor("999 for greater ones", 60, 1, "~[18446744073709551618C", "0,59");
        Edge.state("999 for greater ones", 60, 1, "~[1031m~[4294967327m~[10000000031m", 'm', 0);
        Due.is("999 for greater ones", Edge.fed(60, 1, "~[4294967301n").feed(0, 0), 0);
        Edge.state("each number anew", 60, 1, "~[999;31m", 'm', 8);
    }

    private static void manyNumbers() {
        Edge.state("4 at most", 4, 1, "~[1;4;7;31m", 'm', 15);
        Edge.state("a fifth number spoils it", 4, 1, "~[1;4;7;31;31m", 'm', 0);
        Edge.state("a fifth number without digits", 4, 1, "~[1;4;7;31;m", 'm', 0);
        Edge.state("a sixth one", 4, 1, "~[1;4;7;31;;1m", 'm', 0);
        Edge.cursor("4 without digits", 4, 1, "~[;;;C", "0,1");
        Edge.cursor("a fifth one, all without digits", 4, 1, "~[;;;;C", "0,0");
        Edge.state("0 for one without digits", 4, 1, "~[31;m", 'm', 0);
        Edge.state("0 for one without digits", 4, 1, "~[4m~[;31m", 'm', 8);
        Edge.state("0 for one without digits, between", 4, 1, "~[4;;31m", 'm', 8);
        Edge.cursor("they are gone as the next one begins", 10, 1, "~[5G~[C", "0,5");
        Edge.cursor("they are gone as the next one begins", 10, 3, "~[3;5H~[2H", "1,0");
    }

    private static void asking() {
        Edge.state("perhaps '?'", 4, 1, "~[?25l", 's', 0);
        Edge.state("then numbers, 0 for one without digits", 4, 1, "~[?;25l", 's', 0);
        Edge.state("then numbers, 4 at most", 4, 1, "~[?;;;25l", 's', 0);
        Edge.state("a fifth number spoils it", 4, 1, "~[?25;;;;l", 's', 1);
        Edge.state("only one", 4, 1, "~[??25l", 's', 1);
        Edge.state("only ahead of the numbers", 4, 1, "~[2?5l~[25?l~[;?25l", 's', 1);
        Edge.state("it is gone as the next one begins", 4, 1, "~[?~[25l", 's', 1);
        Edge.state("it is gone as the next one begins", 4, 1, "~[?7l~[4h", 'i', 1);
        Edge.cursor("with '?' and without a number", 4, 2, "abcd~[?h~[?l", "0,3w");
    }

    private static void bytesInside() {
        Edge.cursor("27 begins a new one, behind 27", 10, 1, "~~[2C", "0,2");
        Edge.cursor("27 begins a new one, behind '['", 10, 1, "~[~[2C", "0,2");
        Edge.cursor("27 begins a new one, behind a number", 10, 1, "~[3~[2C", "0,2");
        Edge.cursor("27 begins a new one, behind a spoilt one", 10, 1, "~[:3~[2C", "0,2");
        Edge.cursor("27 begins a new one, whatever sign ends that", 10, 2, "~[3~D", "1,0");
        for (int sign = 0; sign < 32; sign++) {
            if (PLAIN_BYTES.indexOf(sign) < 0) {
                Panehouse h = Bytes.house(10, 1);
                h.feedMore(0, 5, 27, sign, '7', 27, '[', 0, 0, 0);
                h.feedMore(0, 6, '2', sign, 'C', 27, sign, 'D', 0, 0);
                Due.is("another byte below 32 ends it without effect: " + sign, Bytes.row(h, 0, 0), "7CD.......");
            }
        }
        Edge.screen("and is done itself, 8", 10, 2, "ab~[3\bC", "aC......../..........", "0,2");
        Edge.screen("and is done itself, 9", 10, 2, "ab~\tC", "ab......C./..........", "0,9");
        Edge.screen("and is done itself, 10", 10, 2, "ab~[:\nC", "ab......../..C.......", "1,3");
        Edge.screen("and is done itself, 13", 10, 2, "ab~[\rC", "Cb......../..........", "0,1");
        Edge.state("and is done itself, 7", 10, 2, "~\u0007~[\u0007~[2;\u0007~[:\u0007", 'k', 4);
    }

    private static void writingBehindTheLastColumn() {
        Edge.cursor("otherwise it goes one to the right", 4, 2, "abc", "0,3");
        Edge.cursor("at the last column the cursor waits then", 4, 2, "abcd", "0,3w");
        Edge.onward("it waits, and does not go on yet", 4, 2, "abcd", "00");
        Edge.screen("it goes to the column 0 and down", 4, 2, "abcde", "abcd/e...", "1,1");
        Edge.onward("its row goes on", 4, 2, "abcde", "10");
        Edge.screen("at the bottom", 4, 2, "abcdefghi", "efgh/i...", "1,1");
        Edge.onward("at the bottom, its row goes on as it moves", 4, 2, "abcdefghi", "10");
        Edge.kept("at the bottom, so does the one that is kept", 4, 2, "abcdefghi", "abcd+");
        Edge.screen("with one row", 4, 1, "abcde", "e...", "0,1");
        Edge.kept("with one row", 4, 1, "abcde", "abcd+");
        Edge.screen("in the last row below the region", 4, 3, "~[1;2r~[3;1Habcde", "..../..../ebcd", "2,1");
        Edge.onward("in the last row below the region", 4, 3, "~[1;2r~[3;1Habcde", "001");
        Edge.onward("so long as its last cell is not written", 4, 3, "~[1;2r~[3;1Habcdefgh", "000");
        Edge.screen("at the bottom of a region whose top is not row 0", 4, 3, "~[2;3r~[3;1Habcde", "..../abcd/e...",
                "2,1");
        Edge.onward("at the bottom of a region whose top is not row 0", 4, 3, "~[2;3r~[3;1Habcde", "010");
        Edge.kept("at the bottom of a region whose top is not row 0", 4, 3, "~[2;3r~[3;1Habcde", "");
        Edge.onward("of the second screen it is not kept, nor does it go on", 4, 2, "~[?47habcdefghi", "00");
        Panehouse narrow = Bytes.house(20, 2);
        narrow.split(0, true, 1);
        Bytes.feed(narrow, 0, "abc");
        Due.is("with two columns", Bytes.screen(narrow, 0), "ab/c.");
        Due.is("with two columns", Bytes.cursor(narrow, 0), "1,1");
    }

    private static void writingWithoutWrapping() {
        Edge.screen("if wrapping is off", 4, 2, "~[?7labcde", "abce/....", "0,3w");
        Edge.onward("if wrapping is off", 4, 2, "~[?7labcde", "00");
        Edge.screen("it waits, so that it wraps as that is on again", 4, 2, "~[?7labcde~[?7hf", "abce/f...", "1,1");
        Edge.screen("wrapping off as it waits already", 4, 2, "abcd~[?7le", "abce/....", "0,3w");
        Edge.onward("wrapping off as the row goes on", 4, 2, "abcde~[1;4H~[?7lx", "00");
    }

    private static void inserting() {
        Edge.screen("cells from there on move one to the right", 4, 1, "abcd\r~[4hx", "xabc", "0,1");
        Edge.screen("the last one is lost, ahead of it", 4, 1, "abcd~[3G~[4hx", "abxc", "0,3");
        Edge.screen("the last one is lost, at it", 4, 1, "abcd~[4G~[4hx", "abcx", "0,3w");
        Edge.screen("if it waits", 4, 2, "efgh~[1;1Habcd~[4hx", "abcd/x...", "1,1");
        Edge.screen("if it waits, cells of the next row move", 4, 2, "abcdefgh~[1;4Hd~[4hx", "abcd/xefg", "1,1");
        Edge.screen("without wrapping", 4, 1, "~[?7labcd~[4hx", "abcx", "0,3w");
        Edge.onward("as cells of it move", 4, 2, "abcde~[1;1H~[4hx", "00");
        Panehouse h = Edge.fed(4, 1, "a~[31mbc~[m\r~[4hx");
        Due.is("cells move with their marks", h.mark(0, 0, 1) * 100 + h.mark(0, 0, 2) * 10 + h.mark(0, 0, 3), 88);
        Panehouse wider = Edge.fed(6, 2, "~[?47habcdef~[1;3H~[4hx");
        wider.resize(0, 10, 3);
        Due.is("the last one is lost for ever", Bytes.row(wider, 0, 0), "abxcde....");
        Edge.screen("cells beyond a width stay plain", 4, 1, "abcd\r~[4hxyzw~[4l~[2G~[2P", "xw..", "0,1");
    }

    private static void up() {
        Edge.cursor("otherwise to the row above", 4, 3, "~[3;1H~M", "1,0");
        Edge.cursor("to the top", 4, 3, "~[2;1H~M", "0,0");
        Edge.screen("at the top it scrolls down by 1", 4, 2, "a\r\nb~[H~M", "..../a...", "0,0");
        Edge.screen("at the top of a region", 4, 4, "a\r\nb\r\nc\r\nd~[2;3r~[2;1H~M", "a.../..../b.../d...", "1,0");
        Edge.screen("if there is one", 4, 4, "a\r\nb\r\nc\r\nd~[2;3r~M", "a.../b.../c.../d...", "0,0");
        Edge.cursor("above the top", 4, 4, "~[3;4r~[2;1H~M", "0,0");
        Edge.cursor("from below the region", 4, 4, "~[1;2r~[4;1H~M~M", "1,0");
    }

    private static void scrollingUp() {
        String three = "abcdef\r\ng";
        Edge.screen("a plain row comes at the bottom", 4, 3, three + "\n", "ef../g.../....", "2,1");
        Edge.kept("it is kept", 4, 3, three + "\n", "abcd+");
        Edge.screen("the region alone", 4, 3, three + "~[1;2r~[2;1H\n", "ef../..../g...", "1,0");
        Edge.kept("the top is row 0", 4, 3, three + "~[1;2r~[2;1H\n", "abcd+");
        Edge.screen("the top is not row 0", 4, 3, three + "~[2;3r~[3;1H\n", "abcd/g.../....", "2,0");
        Edge.kept("the top is not row 0", 4, 3, three + "~[2;3r~[3;1H\n", "");
        Edge.onward("rows move with whether they go on", 4, 3, "a\r\nbcdef\n", "100");
        Edge.onward("a plain one does not", 4, 2, "~[?7l\nabcd~[?7he", "10");
        Edge.onward("a plain one does not", 4, 2, "\nabcde\n", "00");
        Due.is("not of the second screen", Edge.fed(4, 2, "~[?47hab\n\n\n~[?47l").state(0, 'p'), 0);
        Edge.kept("blanks are kept with their mark, plain rows, too", 4, 1, "\n~[7m \n", "..../....");
        Due.is("blanks are kept with their mark", Edge.fed(4, 1, "\n~[7m \n").mark(0, -1, 0), 4);
    }

    private static void scrollingDown() {
        Edge.screen("down likewise the other way", 4, 3, "abcdef\r\ng~[H~M", "..../abcd/ef..", "0,0");
        Edge.onward("rows move with whether they go on", 4, 3, "abcdef\r\ng~[H~M", "010");
        Edge.onward("a plain one does not", 4, 2, "abcdefgh~[H~M~M", "00");
        Edge.kept("without keeping", 4, 3, "abcdef\r\ng~[H~M~M~M", "");
    }

    private static void fortyRows() {
        for (int many = 39; many <= 42; many++) {
            Panehouse h = Bytes.house(4, 1);
            for (int i = 0; i < many; i++) {
                Bytes.feed(h, 0, (char) ('0' + i) + "\r\n");
            }
            Due.is("up to 40 rows are kept, of " + many, h.state(0, 'p'), Math.min(many, 40));
            Due.is("the eldest ones go, of " + many, h.cell(0, -Math.min(many, 40), 0), '0' + Math.max(0, many - 40));
            Due.is("the youngest stays, of " + many, h.cell(0, -1, 0), '0' + many - 1);
            Due.outOfBounds("no row ahead, of " + many, () -> h.cell(0, -Math.min(h.state(0, 'p'), 40) - 1, 0));
        }
    }

    private static void goingOnNoMore() {
        String last = "as its last cell is written or made plain";
        Edge.onward(last, 4, 2, "abcde~[1;4Hx", "00");
        Edge.onward("another one is written", 4, 2, "abcde~[1;3Hx", "10");
        Edge.onward(last, 4, 2, "abcde~[1;4H~[X", "00");
        Edge.onward(last, 4, 2, "abcde~[1;3H~[2X", "00");
        Edge.onward(last, 4, 2, "abcde~[1;3H~[3X", "00");
        Edge.onward("another one is made plain", 4, 2, "abcde~[1;3H~[X", "10");
        Edge.onward("others are made plain", 4, 2, "abcde~[1;1H~[3X", "10");
        Edge.onward(last, 4, 2, "abcde~[1;1H~[K", "00");
        Edge.onward(last, 4, 2, "abcde~[1;4H~[K", "00");
        Edge.onward(last, 4, 2, "abcde~[1;4H~[1K", "00");
        Edge.onward("others are made plain", 4, 2, "abcde~[1;3H~[1K", "10");
        Edge.onward(last, 4, 2, "abcde~[1;2H~[2K", "00");
        Edge.onward(last, 4, 2, "abcde~[1;4H~[J", "00");
        Edge.onward(last, 4, 2, "abcde~[2;1H~[1J", "00");
        Edge.onward(last, 4, 2, "abcde~[1;4H~[1J", "00");
        Edge.onward("others are made plain", 4, 2, "abcde~[1;3H~[1J", "10");
        Edge.onward("cells of the next row are made plain", 4, 2, "abcde~[2;1H~[J", "10");
        Edge.onward(last, 4, 2, "abcde~[1;1H~[2J", "00");
        Edge.onward("as cells of it move", 4, 2, "abcde~[1;1H~[@", "00");
        Edge.onward(last, 4, 2, "abcde~[1;4H~[@", "00");
        Edge.onward("as cells of it move", 4, 2, "abcde~[1;1H~[P", "00");
        Edge.onward(last, 4, 2, "abcde~[1;4H~[P", "00");
        Edge.onward("cells of the next row move", 4, 2, "abcde~[2;1H~[P~[@", "10");
        Edge.onward("the next row goes away", 4, 2, "abcde~[2;1H~[M", "10");
    }
}
