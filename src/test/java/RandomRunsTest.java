import java.util.Random;
import java.util.concurrent.Callable;

/** Long runs of chosen calls, each answered by the house and by the model; the same seeds give the same runs. */
public final class RandomRunsTest {
    private static final int RUNS = 300;
    private static final int CALLS = 400;
    private static final String ENDS = "ABCDGHfdJKX@PLMSTrmsunhlABCDHJKrmZ[\\`ekz{~";
    private static final String[] WHOLE = {
        "\u001b[?47h", "\u001b[?47l", "\u001b[?6h", "\u001b[?6l", "\u001b[?7l", "\u001b[?7h", "\u001b[?25l",
        "\u001b[?25h", "\u001b[4h", "\u001b[4l", "\u001b7", "\u001b8", "\u001bD", "\u001bM", "\u001bc", "\u001b[6n",
        "\u001b[5n", "\u001b[s", "\u001b[u", "\u001b[?6;25h", "\u001b[1;2;3;4;5A", "\u001b[2:3A", "\u001b\u001b[B",
        "\u001b[2\nC", "\u001b[12345C", "\u001b[;5H", "\u001b[31;1m", "\u001b[0;7m", "\u001b[m", "\u001b[S",
        "\u001b[2;4r", "\u001b[3;9r", "\u001b[r", "\u001b[2J", "\u001b[?2J", "\u001bZ", "\t", "\b", "\r\n", "\n\n\n",
        "\u0007"};

    private final Random random;
    private final Panehouse house = new Panehouse();
    private final Model model = new Model();
    private final String run;
    private String last = "";

    private RandomRunsTest(int seed) {
        random = new Random(seed);
        run = "run " + seed;
    }

    private static Object answerOf(Callable<?> call) {
        try {
            return call.call();
        } catch (Exception e) {
            Class<?> kind = e.getClass();
            return kind.getName();
        }
    }

    private boolean same(String what, Callable<?> one, Callable<?> two) {
        Object got = answerOf(one);
        Object want = answerOf(two);
        if (!got.equals(want)) {
            Due.is(run + ", behind " + last + ": " + what, got, want);
            return false;
        }
        return true;
    }

    private int pick(int bound) {
        return random.nextInt(bound);
    }

    private int somePane() {
        return pick(20) == 0 ? pick(12) - 2 : model.panes.isEmpty() ? 0
                : (Integer) model.panes.keySet().toArray()[pick(model.panes.size())];
    }

    private int someWindow() {
        return pick(20) == 0 ? pick(8) - 2 : model.windows.isEmpty() ? 0
                : (Integer) model.windows.keySet().toArray()[pick(model.windows.size())];
    }

    private int someClient() {
        return pick(20) == 0 ? pick(8) - 2 : model.clients.isEmpty() ? 0
                : (Integer) model.clients.keySet().toArray()[pick(model.clients.size())];
    }

    private String someText() {
        int kind = pick(10);
        if (kind < 4) {
            StringBuilder text = new StringBuilder();
            for (int i = pick(12); i >= 0; i--) {
                text.append(pick(5) == 0 ? ' ' : (char) ('a' + pick(26)));
            }
            return text.toString();
        }
        if (kind < 7) {
            return WHOLE[pick(WHOLE.length)];
        }
        if (kind < 8 && pick(3) == 0) {
            return String.valueOf((char) pick(256));
        }
        StringBuilder text = new StringBuilder("\u001b[");
        if (pick(12) == 0) {
            text.append('?');
        }
        for (int i = pick(3); i > 0; i--) {
            text.append(pick(6) == 0 ? 30 + pick(10) : pick(4) == 0 ? pick(1200) : pick(7));
            if (i > 1 || pick(5) == 0) {
                text.append(';');
            }
        }
        return text.append(ENDS.charAt(pick(ENDS.length()))).toString();
    }

    private boolean feed(int pane, String text) {
        for (int at = 0; at < text.length(); at += 8) {
            int many = Math.min(8, text.length() - at);
            int[] g = new int[8];
            for (int i = 0; i < many; i++) {
                g[i] = text.charAt(at + i);
            }
            last = "feedMore(" + pane + ", " + java.util.Arrays.toString(java.util.Arrays.copyOf(g, many)) + ")";
            if (!same("that", () -> house.feedMore(pane, many, g[0], g[1], g[2], g[3], g[4], g[5], g[6], g[7]),
                    () -> model.feedMore(pane, many, g))) {
                return false;
            }
        }
        return true;
    }

    private boolean step() {
        int p = somePane();
        int w = someWindow();
        int c = someClient();
        int n = pick(12) - 1;
        int size = 3 + (pick(3) == 0 ? pick(60) : pick(20));
        int high = 1 + (pick(3) == 0 ? pick(25) : pick(10));
        boolean b = random.nextBoolean();
        int kind = pick(100);
        last = "call of kind " + kind + " with pane " + p + ", window " + w + ", client " + c + ", " + n + ", "
                + size + ", " + high + ", " + b;
        if (kind < 50) {
            return feed(p, someText());
        } else if (kind < 53) {
            return same("window", house::window, model::window);
        } else if (kind < 57) {
            return same("split", () -> house.split(p, b, n), () -> model.split(p, b, n));
        } else if (kind < 59) {
            return same("share", () -> house.share(p, n), () -> model.share(p, n));
        } else if (kind < 61) {
            return same("close", () -> house.close(p), () -> model.close(p));
        } else if (kind < 63) {
            int q = somePane();
            return same("swap", () -> house.swap(p, q), () -> model.swap(p, q));
        } else if (kind < 65) {
            return same("zoom", () -> house.zoom(w), () -> model.zoom(w));
        } else if (kind < 67) {
            return same("choose", () -> house.choose(p), () -> model.choose(p));
        } else if (kind < 69) {
            return same("attach", () -> house.attach(size, high), () -> model.attach(size, high));
        } else if (kind < 70) {
            return same("detach", () -> house.detach(c), () -> model.detach(c));
        } else if (kind < 75) {
            return same("resize", () -> house.resize(c, size, high), () -> model.resize(c, size, high));
        } else if (kind < 77) {
            return same("look", () -> house.look(c, w), () -> model.look(c, w));
        } else if (kind < 81) {
            return same("redraw", () -> house.redraw(c), () -> model.redraw(c));
        }
        return laterStep(kind, p, c);
    }

    private boolean laterStep(int kind, int p, int c) {
        int row = pick(30) - 12;
        int column = pick(24) - 2;
        int toRow = row + pick(6) - (pick(8) == 0 ? 2 : 0);
        int toColumn = pick(24) - 2;
        char letter = "rchwwmtbaiovskpyq".charAt(pick(17));
        if (kind < 86) {
            int sign = pick(20) == 0 ? pick(260) - 2 : pick(3) == 0 ? 2 : 1 + pick(126);
            return same("key", () -> house.key(c, sign), () -> model.key(c, sign))
                    && (pick(4) > 0 || command(c));
        } else if (kind < 89) {
            return same("copy", () -> house.copy(p, row, column, toRow, toColumn),
                    () -> model.copy(p, row, column, toRow, toColumn));
        } else if (kind < 90) {
            return same("paste", () -> house.paste(p), () -> model.paste(p));
        } else if (kind < 91) {
            return same("answer", () -> house.answer(p), () -> model.answer(p));
        } else if (kind < 92) {
            return same("typed", () -> house.typed(p), () -> model.typed(p));
        } else if (kind < 94) {
            return same("place", () -> house.place(p, letter), () -> model.place(p, letter))
                    && same("state", () -> house.state(p, letter), () -> model.state(p, letter));
        } else if (kind < 96) {
            return same("cell", () -> house.cell(p, row, column), () -> model.cell(p, row, column))
                    && same("mark", () -> house.mark(p, row, column), () -> model.mark(p, row, column))
                    && same("goesOn", () -> house.goesOn(p, row), () -> model.goesOn(p, row));
        } else if (kind < 98) {
            return same("shown", () -> house.shown(c, row, column), () -> model.shown(c, row, column))
                    && same("shownMark", () -> house.shownMark(c, row, column), () -> model.shownMark(c, row, column));
        }
        if (kind == 98) {
            return fillUp(p);
        }
        int sign = pick(260) - 2;
        return same("feed", () -> house.feed(p, sign), () -> model.feed(p, sign));
    }

    /** Answers and typed bytes up to as many as are kept, which other steps seldom come to. */
    private boolean fillUp(int p) {
        if (pick(2) == 0) {
            return feed(p, (pick(2) == 0 ? "\u001b[6n" : "\u001b[5n").repeat(1 + pick(50)));
        }
        boolean isSame = true;
        for (int i = pick(30); i >= 0 && isSame; i--) {
            isSame = same("paste", () -> house.paste(p), () -> model.paste(p));
        }
        return isSame;
    }

    private boolean command(int c) {
        char what = "%\"oxznncd".charAt(pick(9));
        return same("key", () -> house.key(c, 2), () -> model.key(c, 2))
                && same("key " + what, () -> house.key(c, what), () -> model.key(c, what));
    }

    private boolean sameAll() {
        for (int i = 0; i < 8; i++) {
            int p = i;
            if (!same("checksum " + p, () -> house.checksum(p), () -> model.checksum(p))
                    || !same("plainShare " + p, () -> house.plainShare(p), () -> model.plainShare(p))) {
                return false;
            }
            for (char letter : "mtbaiovskpy".toCharArray()) {
                if (!same("state " + letter, () -> house.state(p, letter), () -> model.state(p, letter))) {
                    return false;
                }
            }
            for (char letter : "rchw".toCharArray()) {
                if (!same("place " + letter, () -> house.place(p, letter), () -> model.place(p, letter))) {
                    return false;
                }
            }
        }
        for (int i = 0; i < 4; i++) {
            int k = i;
            boolean isSame = same("shownSum", () -> house.shownSum(k), () -> model.shownSum(k))
                    && same("looksAt", () -> house.looksAt(k), () -> model.looksAt(k))
                    && same("shownCursor", () -> house.shownCursor(k, true), () -> model.shownCursor(k, true))
                    && same("panes", () -> house.panes(k), () -> model.panes(k))
                    && same("active", () -> house.active(k), () -> model.active(k))
                    && same("columns", () -> house.size(k, true), () -> model.size(k, true))
                    && same("rows", () -> house.size(k, false), () -> model.size(k, false));
            for (int j = 0; j < 8 && isSame; j++) {
                int index = j;
                isSame = same("paneAt", () -> house.paneAt(k, index), () -> model.paneAt(k, index));
            }
            if (!isSame) {
                return false;
            }
        }
        return same("isSound", house::isSound, () -> true) && same("windows", house::windows, model::windows)
                && same("meanPanes", house::meanPanes, model::meanPanes) && sameCopied();
    }

    private boolean sameCopied() {
        for (int i = 0; i <= model.copied.length(); i++) {
            int index = i;
            if (!same("copied", () -> house.copied(index), () -> model.copied(index))) {
                return false;
            }
        }
        return true;
    }

    private boolean isSame() {
        for (int i = 0; i < CALLS; i++) {
            if (!step() || !sameAll()) {
                return false;
            }
        }
        return true;
    }

    public static void main(String[] args) {
        for (int seed = 0; seed < RUNS; seed++) {
            if (!new RandomRunsTest(seed).isSame()) {
                break;
            }
        }
        Due.end();
    }
}
