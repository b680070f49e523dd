/** Gives texts of bytes to a pane, and reads rows of it. */
final class Bytes {
    private Bytes() {
    }

    /** Feeds a text; '~' stands for 27. */
    static int feed(Panehouse house, int pane, String text) {
        int answers = 0;
        String all = text.replace('~', '\u001b');
        for (int at = 0; at < all.length(); at += 8) {
            int many = Math.min(8, all.length() - at);
            int[] g = new int[8];
            for (int i = 0; i < many; i++) {
                g[i] = all.charAt(at + i);
            }
            answers = house.feedMore(pane, many, g[0], g[1], g[2], g[3], g[4], g[5], g[6], g[7]);
        }
        return answers;
    }

    /** A row's signs, blanks as '.'. */
    static String row(Panehouse house, int pane, int row) {
        StringBuilder text = new StringBuilder();
        for (int i = 0; i < house.place(pane, 'w'); i++) {
            char sign = house.cell(pane, row, i);
            text.append(sign == ' ' ? '.' : sign);
        }
        return text.toString();
    }

    /** All rows of the screen, parted by '/'. */
    static String screen(Panehouse house, int pane) {
        StringBuilder text = new StringBuilder();
        for (int i = 0; i < house.place(pane, 'h'); i++) {
            text.append(i == 0 ? "" : "/").append(row(house, pane, i));
        }
        return text.toString();
    }

    /** The cursor as row, column, and w if it waits. */
    static String cursor(Panehouse house, int pane) {
        return house.state(pane, 'r') + "," + house.state(pane, 'c') + (house.state(pane, 'w') == 1 ? "w" : "");
    }

    /** Which rows of the screen go on, as 1 and 0. */
    static String onward(Panehouse house, int pane) {
        StringBuilder text = new StringBuilder();
        for (int i = 0; i < house.place(pane, 'h'); i++) {
            text.append(house.goesOn(pane, i) ? '1' : '0');
        }
        return text.toString();
    }

    static String answers(Panehouse house, int pane, int many) {
        StringBuilder text = new StringBuilder();
        for (int i = 0; i < many; i++) {
            text.append((char) house.answer(pane));
        }
        return text.toString().replace('\u001b', '~');
    }

    /** A row that a client's terminal shows, blanks as '.'. */
    static String shown(Panehouse house, int client, int row, int columns) {
        StringBuilder text = new StringBuilder();
        for (int i = 0; i < columns; i++) {
            char sign = house.shown(client, row, i);
            text.append(sign == ' ' ? '.' : sign);
        }
        return text.toString();
    }

    static String copied(Panehouse house, int many) {
        StringBuilder text = new StringBuilder();
        for (int i = 0; i < many; i++) {
            int sign = house.copied(i);
            text.append(sign == 10 ? "/" : sign == 32 ? "." : String.valueOf((char) sign));
        }
        return text.toString();
    }

    /** A house with one window and one client, whose pane has so many columns and rows. */
    static Panehouse house(int columns, int rows) {
        Panehouse house = new Panehouse();
        house.window();
        house.attach(columns, rows + 1);
        return house;
    }
}
