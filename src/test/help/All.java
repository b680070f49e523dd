/** All that can be asked of a house without changing it, as one text. */
final class All {
    private All() {
    }

    static String of(Panehouse h) {
        StringBuilder text = new StringBuilder("windows " + h.windows());
        for (int window = 0; window < 4; window++) {
            try {
                text.append("\nwindow ").append(window).append(": ").append(h.size(window, true)).append(' ');
                text.append(h.size(window, false)).append(' ').append(h.active(window));
                for (int i = 0; i < h.panes(window); i++) {
                    text.append(' ').append(h.paneAt(window, i));
                }
            } catch (IndexOutOfBoundsException e) {
                text.append(" none");
            }
        }
        for (int pane = 0; pane < 8; pane++) {
            addPane(text, h, pane);
        }
        for (int client = 0; client < 4; client++) {
            addClient(text, h, client);
        }
        text.append("\ncopied");
        try {
            for (int i = 0; i <= 400; i++) {
                text.append(' ').append(h.copied(i));
            }
        } catch (java.util.NoSuchElementException e) {
            text.append('.');
        }
        return text.append("\nsound ").append(h.isSound()).toString();
    }

    private static void addPane(StringBuilder text, Panehouse h, int pane) {
        text.append("\npane ").append(pane);
        try {
            for (char what : "rchw".toCharArray()) {
                text.append(' ').append(what).append(h.place(pane, what));
            }
            for (char what : "rcwmtbaiovskpy".toCharArray()) {
                text.append(' ').append(what).append(h.state(pane, what));
            }
            text.append(' ').append(h.checksum(pane)).append(' ').append(h.plainShare(pane)).append(' ');
            text.append(Bytes.screen(h, pane));
        } catch (IndexOutOfBoundsException e) {
            text.append(" none");
        }
    }

    private static void addClient(StringBuilder text, Panehouse h, int client) {
        text.append("\nclient ").append(client);
        try {
            text.append(' ').append(h.looksAt(client)).append(' ').append(h.shownSum(client));
            text.append(' ').append(h.shownCursor(client, true)).append(' ').append(h.shownCursor(client, false));
        } catch (IndexOutOfBoundsException e) {
            text.append(" none");
        } catch (java.util.NoSuchElementException e) {
            text.append(" no cursor");
        }
    }
}
