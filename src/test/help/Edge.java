/** New panes of a size that got bytes, and what is due of them then; each is told by the document's sentence. */
final class Edge {
    private Edge() {
    }

    static Panehouse fed(int columns, int rows, String bytes) {
        Panehouse house = Bytes.house(columns, rows);
        Bytes.feed(house, 0, bytes);
        return house;
    }

    static void cursor(String sentence, int columns, int rows, String bytes, String cursor) {
        Due.is(sentence + " <" + bytes + ">", Bytes.cursor(fed(columns, rows, bytes), 0), cursor);
    }

    static void screen(String sentence, int columns, int rows, String bytes, String screen, String cursor) {
        Panehouse house = fed(columns, rows, bytes);
        Due.is(sentence + " <" + bytes + ">", Bytes.screen(house, 0), screen);
        Due.is(sentence + " <" + bytes + ">, cursor", Bytes.cursor(house, 0), cursor);
        Due.is(sentence + " <" + bytes + ">, sound", house.isSound(), true);
    }

    static void onward(String sentence, int columns, int rows, String bytes, String onward) {
        Due.is(sentence + " <" + bytes + ">, going on", Bytes.onward(fed(columns, rows, bytes), 0), onward);
    }

    /** Rows that scrolled away, the eldest first, with '+' behind those that go on. */
    static String kept(Panehouse house, int pane) {
        StringBuilder text = new StringBuilder();
        for (int row = -house.state(pane, 'p'); row < 0; row++) {
            text.append(text.length() == 0 ? "" : "/").append(Bytes.row(house, pane, row));
            text.append(house.goesOn(pane, row) ? "+" : "");
        }
        return text.toString();
    }

    static void kept(String sentence, int columns, int rows, String bytes, String kept) {
        Due.is(sentence + " <" + bytes + ">, kept", kept(fed(columns, rows, bytes), 0), kept);
    }

    static void state(String sentence, int columns, int rows, String bytes, char what, int told) {
        Due.is(sentence + " <" + bytes + ">, " + what, fed(columns, rows, bytes).state(0, what), told);
    }

    static void region(String sentence, int columns, int rows, String bytes, String region) {
        Panehouse house = fed(columns, rows, bytes);
        Due.is(sentence + " <" + bytes + ">", house.state(0, 't') + "-" + house.state(0, 'b'), region);
    }

    /** Each pane of a window in order: its number, row, column, height and width. */
    static String places(Panehouse house, int window) {
        StringBuilder text = new StringBuilder();
        for (int i = 0; i < house.panes(window); i++) {
            int pane = house.paneAt(window, i);
            text.append(i == 0 ? "" : " ").append(pane).append(':').append(house.place(pane, 'r')).append(',');
            text.append(house.place(pane, 'c')).append(',').append(house.place(pane, 'h')).append(',');
            text.append(house.place(pane, 'w'));
        }
        return text.toString();
    }

    /** All rows that a client's terminal shows. */
    static String shown(Panehouse house, int client, int rows, int columns) {
        StringBuilder text = new StringBuilder();
        for (int row = 0; row < rows; row++) {
            text.append(row == 0 ? "" : "/").append(Bytes.shown(house, client, row, columns));
        }
        return text.toString();
    }
}
