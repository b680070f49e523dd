import java.util.ArrayDeque;
import java.util.ArrayList;
import java.util.Deque;
import java.util.List;
import java.util.NoSuchElementException;
import java.util.TreeMap;
import java.util.regex.Matcher;
import java.util.regex.Pattern;

/**
 * The house once more, written from the document alone in a plain and slow way, with lists, maps and patterns, so
 * that long runs of calls can be compared with it.
 */
final class Model {
    static final class Cell {
        final char sign;
        final int mark;

        Cell(char sign, int mark) {
            this.sign = sign;
            this.mark = mark;
        }

        boolean isPlain() {
            return sign == ' ' && mark == 0;
        }
    }

    static final Cell PLAIN = new Cell(' ', 0);

    static final class Row {
        final List<Cell> cells = new ArrayList<>();
        boolean on;

        Row(int width) {
            while (cells.size() < width) {
                cells.add(PLAIN);
            }
        }

        int filled() {
            int last = 0;
            for (int i = 0; i < cells.size(); i++) {
                if (!cells.get(i).isPlain()) {
                    last = i + 1;
                }
            }
            return last;
        }
    }

    static final class Screen {
        List<Row> rows = new ArrayList<>();
        int row;
        int column;
        boolean waits;
    }

    static final class Pane {
        int width = 20;
        int height = 8;
        Screen[] screens = new Screen[2];
        int used;
        int top;
        int bottom;
        int mark;
        boolean wrapping;
        boolean showing;
        boolean origin;
        boolean inserting;
        int savedRow;
        int savedColumn;
        int savedMark;
        boolean savedWaits;
        List<Row> away = new ArrayList<>();
        int bells;
        StringBuilder sequence;
        Deque<Integer> answers = new ArrayDeque<>();
        Deque<Integer> typed = new ArrayDeque<>();

        Pane() {
            reset();
        }

        void reset() {
            for (int i = 0; i < 2; i++) {
                screens[i] = plainScreen();
            }
            used = 0;
            top = 0;
            bottom = height - 1;
            mark = 0;
            wrapping = true;
            showing = true;
            origin = false;
            inserting = false;
            savedRow = 0;
            savedColumn = 0;
            savedMark = 0;
            savedWaits = false;
        }

        Screen plainScreen() {
            Screen made = new Screen();
            for (int i = 0; i < height; i++) {
                made.rows.add(new Row(width));
            }
            return made;
        }

        Screen s() {
            return screens[used];
        }

        Row row(int number) {
            if (number >= height || number < (used == 0 ? -away.size() : 0)) {
                throw new IndexOutOfBoundsException();
            }
            return number < 0 ? away.get(away.size() + number) : s().rows.get(number);
        }

        Cell cell(int row, int column) {
            Row found = row(row);
            if (column < 0 || column >= width) {
                throw new IndexOutOfBoundsException();
            }
            return found.cells.get(column);
        }

        void feed(int b) {
            if (b == 27) {
                sequence = new StringBuilder();
            } else if (b < 32) {
                sequence = null;
                control(b);
            } else if (sequence == null) {
                if (b <= 126) {
                    write((char) b);
                }
            } else {
                sequence.append((char) b);
                if (sequence.length() == 1 && b != '[') {
                    sequence = null;
                    escape(b);
                } else if (sequence.length() > 1 && b >= 64 && b <= 126) {
                    String all = sequence.toString();
                    sequence = null;
                    bracket(all);
                }
            }
        }

        void control(int b) {
            if (b == 7) {
                bells++;
            }
            if (b == 8 || b == 9 || b == 10 || b == 13) {
                s().waits = false;
            }
            if (b == 8 && s().column > 0) {
                s().column--;
            }
            if (b == 9) {
                do {
                    s().column++;
                } while (s().column % 8 != 0);
                if (s().column >= width) {
                    s().column = width - 1;
                }
            }
            if (b == 10) {
                down();
            }
            if (b == 13) {
                s().column = 0;
            }
        }

        void escape(int b) {
            if (b == '7') {
                save();
            }
            if (b == '8') {
                restore();
            }
            if (b == 'D') {
                s().waits = false;
                down();
            }
            if (b == 'M') {
                s().waits = false;
                up();
            }
            if (b == 'c') {
                reset();
            }
        }

        void save() {
            savedRow = s().row;
            savedColumn = s().column;
            savedWaits = s().waits;
            savedMark = mark;
        }

        void restore() {
            s().row = Math.min(savedRow, height - 1);
            s().column = Math.min(savedColumn, width - 1);
            s().waits = savedWaits && s().column == width - 1;
            mark = savedMark;
        }

        void write(char sign) {
            Screen s = s();
            if (s.waits && wrapping) {
                if (used == 0) {
                    s.rows.get(s.row).on = true;
                }
                s.column = 0;
                down();
            }
            s.waits = false;
            Row row = s.rows.get(s.row);
            if (inserting) {
                row.cells.add(s.column, PLAIN);
                row.cells.remove(width);
                row.on = false;
            }
            row.cells.set(s.column, new Cell(sign, mark));
            if (s.column == width - 1) {
                row.on = false;
                s.waits = true;
            } else {
                s.column++;
            }
        }

        void down() {
            if (s().row == bottom) {
                scrollUp();
            } else if (s().row + 1 < height) {
                s().row++;
            }
        }

        void up() {
            if (s().row == top) {
                scrollDown();
            } else if (s().row > 0) {
                s().row--;
            }
        }

        void scrollUp() {
            Row gone = s().rows.remove(top);
            s().rows.add(bottom, new Row(width));
            if (used == 0 && top == 0) {
                away.add(gone);
                if (away.size() > 40) {
                    away.remove(0);
                }
            }
        }

        void scrollDown() {
            s().rows.remove(bottom);
            s().rows.add(top, new Row(width));
        }

        static final Pattern SEQUENCE = Pattern.compile("\\[(\\??)((?:[0-9]*;){0,3}[0-9]*)([@-~])");

        void bracket(String all) {
            Matcher found = SEQUENCE.matcher(all);
            if (!found.matches()) {
                return;
            }
            List<Integer> numbers = new ArrayList<>();
            if (!found.group(2).isEmpty()) {
                for (String text : found.group(2).split(";", -1)) {
                    numbers.add(text.isEmpty() ? 0
                            : new java.math.BigInteger(text).min(java.math.BigInteger.valueOf(999)).intValue());
                }
            }
            boolean asked = !found.group(1).isEmpty();
            char end = found.group(3).charAt(0);
            if (asked) {
                if (end == 'h' || end == 'l') {
                    for (int number : numbers) {
                        mode(number, end == 'h');
                    }
                }
                return;
            }
            int first = numbers.isEmpty() ? 0 : numbers.get(0);
            int second = numbers.size() < 2 ? 0 : numbers.get(1);
            if ("ABCDGHfdJKX@PLMSTrmsunhl".indexOf(end) < 0) {
                return;
            }
            if ("msnhl".indexOf(end) < 0) {
                s().waits = false;
            }
            act(end, first, second, numbers);
        }

        void act(char end, int first, int second, List<Integer> numbers) {
            int n = Math.max(first, 1);
            Screen s = s();
            Row row = s.rows.get(s.row);
            if (end == 'A') {
                int limit = s.row < top ? 0 : top;
                for (int i = 0; i < n && s.row > limit; i++) {
                    s.row--;
                }
            } else if (end == 'B') {
                int limit = s.row > bottom ? height - 1 : bottom;
                for (int i = 0; i < n && s.row < limit; i++) {
                    s.row++;
                }
            } else if (end == 'C') {
                s.column = Math.min(width - 1, s.column + n);
            } else if (end == 'D') {
                s.column = Math.max(0, s.column - n);
            } else if (end == 'G') {
                s.column = Math.min(width, n) - 1;
            } else if (end == 'H' || end == 'f' || end == 'd') {
                s.row = origin ? Math.min(bottom, top + n - 1) : Math.min(height, n) - 1;
                if (end != 'd') {
                    s.column = Math.min(width, Math.max(second, 1)) - 1;
                }
            } else if (end == 'J') {
                for (int i = 0; i < height; i++) {
                    for (int j = 0; j < width; j++) {
                        boolean ahead = i < s.row || i == s.row && j < s.column;
                        boolean at = i == s.row && j == s.column;
                        plainIf(first, ahead, at, s.rows.get(i), j);
                    }
                }
            } else if (end == 'K') {
                for (int j = 0; j < width; j++) {
                    plainIf(first, j < s.column, j == s.column, row, j);
                }
            } else if (end == 'X') {
                for (int j = s.column; j < width && j < s.column + n; j++) {
                    plain(row, j);
                }
            } else if (end == '@') {
                for (int i = 0; i < Math.min(n, width); i++) {
                    row.cells.add(s.column, PLAIN);
                    row.cells.remove(width);
                }
                row.on = false;
            } else if (end == 'P') {
                for (int i = 0; i < Math.min(n, width); i++) {
                    row.cells.remove(s.column);
                    row.cells.add(PLAIN);
                }
                row.on = false;
            } else if (end == 'L' || end == 'M') {
                for (int i = 0; i < n && i < height && s.row >= top && s.row <= bottom; i++) {
                    s.rows.remove(end == 'L' ? bottom : s.row);
                    s.rows.add(end == 'L' ? s.row : bottom, new Row(width));
                }
            } else if (end == 'S' || end == 'T') {
                for (int i = 0; i < n && i <= bottom - top; i++) {
                    if (end == 'S') {
                        scrollUp();
                    } else {
                        scrollDown();
                    }
                }
            } else if (end == 'r') {
                int last = second == 0 || second > height ? height : second;
                if (n < last) {
                    top = n - 1;
                    bottom = last - 1;
                    home();
                }
            } else if (end == 'm') {
                if (numbers.isEmpty()) {
                    mark = 0;
                }
                for (int number : numbers) {
                    marking(number);
                }
            } else if (end == 's') {
                save();
            } else if (end == 'u') {
                restore();
            } else if (end == 'n' && first == 5) {
                reply("\u001b[0n");
            } else if (end == 'n' && first == 6) {
                reply("\u001b[" + (origin ? s.row - top + 1 : s.row + 1) + ";" + (s.column + 1) + "R");
            } else if (end == 'h' || end == 'l') {
                if (numbers.contains(4)) {
                    inserting = end == 'h';
                }
            }
        }

        void plainIf(int how, boolean ahead, boolean at, Row row, int column) {
            if (how == 0 && !ahead || how == 1 && (ahead || at) || how == 2) {
                plain(row, column);
            }
        }

        void plain(Row row, int column) {
            row.cells.set(column, PLAIN);
            if (column == width - 1) {
                row.on = false;
            }
        }

        void marking(int number) {
            int colour = mark / 8;
            int bits = mark % 8;
            if (number == 0) {
                colour = 0;
                bits = 0;
            }
            bits = number == 1 ? bits | 1 : number == 4 ? bits | 2 : number == 7 ? bits | 4 : bits;
            bits = number == 22 ? bits & 6 : number == 24 ? bits & 5 : number == 27 ? bits & 3 : bits;
            colour = number >= 30 && number <= 37 ? number - 30 : number == 39 ? 0 : colour;
            mark = colour * 8 + bits;
        }

        void reply(String text) {
            if (answers.size() + text.length() <= 200) {
                for (char sign : text.toCharArray()) {
                    answers.add((int) sign);
                }
            }
        }

        void home() {
            s().row = origin ? top : 0;
            s().column = 0;
            s().waits = false;
        }

        void mode(int number, boolean on) {
            if (number == 6) {
                origin = on;
                home();
            } else if (number == 7) {
                wrapping = on;
            } else if (number == 25) {
                showing = on;
            } else if (number == 47 && on && used == 0) {
                used = 1;
                screens[1] = plainScreen();
            } else if (number == 47 && !on) {
                used = 0;
            }
        }

        void resize(int newWidth, int newHeight) {
            if (newWidth == width && newHeight == height) {
                return;
            }
            Screen first = screens[0];
            List<Row> rows = new ArrayList<>(away);
            int last = first.row;
            for (int i = 0; i < height; i++) {
                if (first.rows.get(i).filled() > 0) {
                    last = Math.max(last, i);
                }
            }
            int cursorIndex = away.size() + first.row;
            rows.addAll(first.rows.subList(0, last + 1));
            List<Row> made = new ArrayList<>();
            int newRow = 0;
            int newColumn = 0;
            for (int i = 0; i < rows.size(); i++) {
                List<Cell> line = new ArrayList<>();
                int place = -1;
                for (boolean more = true; more; i++) {
                    if (i == cursorIndex) {
                        place = line.size() + first.column;
                    }
                    more = rows.get(i).on && i + 1 < rows.size();
                    line.addAll(more ? rows.get(i).cells : rows.get(i).cells.subList(0, rows.get(i).filled()));
                    if (!more) {
                        break;
                    }
                }
                while (place >= 0 && line.size() < (first.waits ? place + 1 : place)) {
                    line.add(PLAIN);
                }
                if (place >= 0) {
                    newRow = made.size() + place / newWidth;
                    newColumn = place % newWidth;
                }
                int start = made.size();
                do {
                    Row row = new Row(newWidth);
                    for (int j = 0; j < newWidth && !line.isEmpty(); j++) {
                        row.cells.set(j, line.remove(0));
                    }
                    row.on = true;
                    made.add(row);
                } while (!line.isEmpty() || place >= 0 && made.size() <= newRow);
                made.get(Math.max(start, made.size() - 1)).on = false;
            }
            away.clear();
            while (made.size() > newHeight && newRow > 0) {
                away.add(made.remove(0));
                newRow--;
            }
            while (away.size() > 40) {
                away.remove(0);
            }
            while (made.size() < newHeight) {
                made.add(new Row(newWidth));
            }
            first.rows = new ArrayList<>(made.subList(0, newHeight));
            first.row = newRow;
            first.column = newColumn;
            first.waits = false;
            Screen second = screens[1];
            List<Row> others = new ArrayList<>();
            for (int i = 0; i < newHeight; i++) {
                Row row = new Row(newWidth);
                for (int j = 0; j < Math.min(width, newWidth) && i < height; j++) {
                    row.cells.set(j, second.rows.get(i).cells.get(j));
                }
                others.add(row);
            }
            second.rows = others;
            second.row = Math.min(second.row, newHeight - 1);
            second.column = Math.min(second.column, newWidth - 1);
            second.waits = false;
            width = newWidth;
            height = newHeight;
            top = 0;
            bottom = height - 1;
        }
    }

    /** A tree: a pane's number, or two trees. */
    static final class Tree {
        int pane = -1;
        Tree one;
        Tree two;
        boolean beside;
        int share;

        Tree(int pane) {
            this.pane = pane;
        }

        int need(boolean wide) {
            if (one == null) {
                return wide ? 2 : 1;
            }
            return beside == wide ? one.need(wide) + 1 + two.need(wide) : Math.max(one.need(wide), two.need(wide));
        }

        void list(List<Integer> order) {
            if (one == null) {
                order.add(pane);
            } else {
                one.list(order);
                two.list(order);
            }
        }

        Tree find(int wanted) {
            if (one == null) {
                return pane == wanted ? this : null;
            }
            Tree found = one.find(wanted);
            return found == null ? two.find(wanted) : found;
        }

        Tree parentOf(Tree wanted) {
            if (one == null) {
                return null;
            }
            if (one == wanted || two == wanted) {
                return this;
            }
            Tree found = one.parentOf(wanted);
            return found == null ? two.parentOf(wanted) : found;
        }

        /** Puts into the places, by pane, row, column, height and width; into the picture, borders. */
        void places(int row, int column, int height, int width, TreeMap<Integer, int[]> places, Cell[][] picture) {
            if (one == null) {
                places.put(pane, new int[] {row, column, height, width});
                return;
            }
            int room = (beside ? width : height) - 1;
            int first = room * share / 10;
            first = Math.max(first, one.need(beside));
            first = Math.min(first, room - two.need(beside));
            if (beside) {
                one.places(row, column, height, first, places, picture);
                two.places(row, column + first + 1, height, room - first, places, picture);
                for (int i = 0; i < height; i++) {
                    picture[row + i][column + first] = new Cell('|', 0);
                }
            } else {
                one.places(row, column, first, width, places, picture);
                two.places(row + first + 1, column, room - first, width, places, picture);
                for (int i = 0; i < width; i++) {
                    picture[row + first][column + i] = new Cell('-', 0);
                }
            }
        }
    }

    static final class Window {
        Tree tree;
        int active;
        boolean zoomed;
        int columns = 20;
        int rows = 8;
        TreeMap<Integer, int[]> places = new TreeMap<>();
        Cell[][] borders;

        List<Integer> order() {
            List<Integer> order = new ArrayList<>();
            tree.list(order);
            return order;
        }
    }

    static final class Client {
        int columns;
        int rows;
        int window;
        boolean kept;
        Cell[][] shows;
        int cursorRow = -1;
        int cursorColumn = -1;

        void size(int newColumns, int newRows) {
            columns = newColumns;
            rows = newRows;
            shows = picture(rows, columns);
            cursorRow = -1;
            cursorColumn = -1;
        }
    }

    static Cell[][] picture(int rows, int columns) {
        Cell[][] made = new Cell[rows][columns];
        for (Cell[] row : made) {
            java.util.Arrays.fill(row, PLAIN);
        }
        return made;
    }

    final TreeMap<Integer, Window> windows = new TreeMap<>();
    final TreeMap<Integer, Pane> panes = new TreeMap<>();
    final TreeMap<Integer, Client> clients = new TreeMap<>();
    String copied = "";

    static int free(TreeMap<Integer, ?> map) {
        int number = 0;
        while (map.containsKey(number)) {
            number++;
        }
        return number;
    }

    static <T> T known(TreeMap<Integer, T> map, int number) {
        if (!map.containsKey(number)) {
            throw new IndexOutOfBoundsException();
        }
        return map.get(number);
    }

    int windowOf(int pane) {
        for (int number : windows.keySet()) {
            if (windows.get(number).tree.find(pane) != null) {
                return number;
            }
        }
        throw new IndexOutOfBoundsException();
    }

    static void range(int number, int least, int most) {
        if (number < least || number > most) {
            throw new IllegalArgumentException();
        }
    }

    void sizes() {
        for (int number : windows.keySet()) {
            Window window = windows.get(number);
            int columns = Integer.MAX_VALUE;
            int rows = Integer.MAX_VALUE;
            for (Client client : clients.values()) {
                if (client.window == number) {
                    columns = Math.min(columns, client.columns);
                    rows = Math.min(rows, client.rows - 1);
                }
            }
            columns = columns == Integer.MAX_VALUE ? window.columns : columns;
            rows = rows == Integer.MAX_VALUE ? window.rows : rows;
            window.columns = Math.max(columns, window.tree.need(true));
            window.rows = Math.max(rows, window.tree.need(false));
            window.places.clear();
            window.borders = picture(window.rows, window.columns);
            window.tree.places(0, 0, window.rows, window.columns, window.places, window.borders);
            if (window.zoomed) {
                window.places.put(window.active, new int[] {0, 0, window.rows, window.columns});
            }
            for (int pane : window.places.keySet()) {
                int[] place = window.places.get(pane);
                panes.get(pane).resize(place[3], place[2]);
            }
        }
    }

    int window() {
        if (windows.size() == 4 || panes.size() == 8) {
            throw new IllegalStateException();
        }
        Window made = new Window();
        made.active = free(panes);
        panes.put(made.active, new Pane());
        made.tree = new Tree(made.active);
        int number = free(windows);
        windows.put(number, made);
        sizes();
        return number;
    }

    int windows() {
        return windows.size();
    }

    int size(int window, boolean isWide) {
        return isWide ? known(windows, window).columns : known(windows, window).rows;
    }

    int panes(int window) {
        return known(windows, window).order().size();
    }

    int paneAt(int window, int index) {
        List<Integer> order = known(windows, window).order();
        if (index < 0 || index >= order.size()) {
            throw new NoSuchElementException();
        }
        return order.get(index);
    }

    int active(int window) {
        return known(windows, window).active;
    }

    int choose(int pane) {
        known(panes, pane);
        Window window = windows.get(windowOf(pane));
        int before = window.active;
        window.zoomed = window.zoomed && before == pane;
        window.active = pane;
        sizes();
        return before;
    }

    int split(int pane, boolean isBeside, int share) {
        known(panes, pane);
        range(share, 1, 9);
        if (panes.size() == 8) {
            throw new IllegalStateException();
        }
        Window window = windows.get(windowOf(pane));
        int made = free(panes);
        panes.put(made, new Pane());
        Tree leaf = window.tree.find(pane);
        leaf.pane = -1;
        leaf.one = new Tree(pane);
        leaf.two = new Tree(made);
        leaf.beside = isBeside;
        leaf.share = share;
        window.active = made;
        window.zoomed = false;
        sizes();
        return made;
    }

    int share(int pane, int share) {
        known(panes, pane);
        range(share, 1, 9);
        Window window = windows.get(windowOf(pane));
        Tree parent = window.tree.parentOf(window.tree.find(pane));
        if (parent == null) {
            throw new UnsupportedOperationException();
        }
        int before = parent.share;
        parent.share = share;
        sizes();
        return before;
    }

    int close(int pane) {
        known(panes, pane);
        if (panes.size() == 1) {
            throw new IllegalStateException();
        }
        int number = windowOf(pane);
        Window window = windows.get(number);
        Tree leaf = window.tree.find(pane);
        Tree parent = window.tree.parentOf(leaf);
        panes.remove(pane);
        if (parent == null) {
            windows.remove(number);
            for (Client client : clients.values()) {
                if (client.window == number) {
                    client.window = windows.firstKey();
                }
            }
        } else {
            Tree other = parent.one == leaf ? parent.two : parent.one;
            List<Integer> order = new ArrayList<>();
            other.list(order);
            parent.pane = other.pane;
            parent.beside = other.beside;
            parent.share = other.share;
            parent.one = other.one;
            parent.two = other.two;
            window.zoomed = false;
            if (window.active == pane) {
                window.active = order.get(0);
            }
        }
        sizes();
        return panes.size();
    }

    int swap(int pane, int other) {
        known(panes, pane);
        known(panes, other);
        if (pane == other) {
            throw new IllegalArgumentException();
        }
        Window one = windows.get(windowOf(pane));
        Window two = windows.get(windowOf(other));
        int between = -1;
        if (one == two) {
            List<Integer> order = one.order();
            between = Math.abs(order.indexOf(pane) - order.indexOf(other)) - 1;
        }
        Tree leaf = one.tree.find(pane);
        Tree otherLeaf = two.tree.find(other);
        leaf.pane = other;
        otherLeaf.pane = pane;
        boolean was = one.active == pane;
        boolean otherWas = two.active == other;
        if (was) {
            one.active = other;
        }
        if (otherWas) {
            two.active = pane;
        }
        one.zoomed = false;
        two.zoomed = false;
        sizes();
        return between;
    }

    boolean zoom(int window) {
        Window found = known(windows, window);
        found.zoomed = !found.zoomed;
        sizes();
        return found.zoomed;
    }

    int place(int pane, char what) {
        known(panes, pane);
        int index = "rchw".indexOf(what);
        if (index < 0) {
            throw new IllegalArgumentException();
        }
        return windows.get(windowOf(pane)).places.get(pane)[index];
    }

    int feed(int pane, int sign) {
        Pane found = known(panes, pane);
        range(sign, 0, 255);
        found.feed(sign);
        return found.answers.size();
    }

    int feedMore(int pane, int many, int... given) {
        Pane found = known(panes, pane);
        range(many, 1, 8);
        for (int i = 0; i < many; i++) {
            range(given[i], 0, 255);
        }
        for (int i = 0; i < many; i++) {
            found.feed(given[i]);
        }
        return found.answers.size();
    }

    int answer(int pane) {
        return known(panes, pane).answers.remove();
    }

    char cell(int pane, int row, int column) {
        return known(panes, pane).cell(row, column).sign;
    }

    int mark(int pane, int row, int column) {
        return known(panes, pane).cell(row, column).mark;
    }

    boolean goesOn(int pane, int row) {
        return known(panes, pane).row(row).on;
    }

    int state(int pane, char what) {
        Pane p = known(panes, pane);
        Screen s = p.s();
        int[] all = {s.row, s.column, s.waits ? 1 : 0, p.mark, p.top, p.bottom, p.used, p.inserting ? 1 : 0,
            p.origin ? 1 : 0, p.wrapping ? 1 : 0, p.showing ? 1 : 0, p.bells, p.away.size(), p.typed.size()};
        int index = "rcwmtbaiovskpy".indexOf(what);
        if (index < 0) {
            throw new IllegalArgumentException();
        }
        return all[index];
    }

    int attach(int columns, int rows) {
        range(columns, 4, 60);
        range(rows, 2, 24);
        if (windows.isEmpty()) {
            throw new UnsupportedOperationException();
        }
        if (clients.size() == 4) {
            throw new IllegalStateException();
        }
        Client client = new Client();
        client.size(columns, rows);
        client.window = windows.firstKey();
        int number = free(clients);
        clients.put(number, client);
        sizes();
        return number;
    }

    int detach(int client) {
        known(clients, client);
        clients.remove(client);
        sizes();
        return clients.size();
    }

    int resize(int client, int columns, int rows) {
        Client found = known(clients, client);
        range(columns, 4, 60);
        range(rows, 2, 24);
        int before = found.columns;
        found.size(columns, rows);
        sizes();
        return before;
    }

    int look(int client, int window) {
        Client found = known(clients, client);
        known(windows, window);
        int before = found.window;
        found.window = window;
        sizes();
        return before;
    }

    int looksAt(int client) {
        return known(clients, client).window;
    }

    int redraw(int client) {
        Client c = known(clients, client);
        Window window = windows.get(c.window);
        Cell[][] next = picture(c.rows, c.columns);
        for (int i = 0; i < c.rows - 1 && i < window.rows; i++) {
            for (int j = 0; j < c.columns && j < window.columns; j++) {
                next[i][j] = seen(window, i, j);
            }
        }
        StringBuilder bar = new StringBuilder();
        for (int number : windows.keySet()) {
            bar.append(number).append(number == c.window ? '*' : ' ');
        }
        for (int j = 0; j < c.columns; j++) {
            next[c.rows - 1][j] = new Cell(j < bar.length() ? bar.charAt(j) : ' ', 4);
        }
        int changed = 0;
        for (int i = 0; i < c.rows; i++) {
            for (int j = 0; j < c.columns; j++) {
                Cell before = c.shows[i][j];
                changed += before.sign != next[i][j].sign || before.mark != next[i][j].mark ? 1 : 0;
            }
        }
        c.shows = next;
        int[] place = window.places.get(window.active);
        Pane active = panes.get(window.active);
        c.cursorRow = place[0] + active.s().row;
        c.cursorColumn = place[1] + active.s().column;
        if (!active.showing || c.cursorRow >= c.rows - 1 || c.cursorColumn >= c.columns) {
            c.cursorRow = -1;
            c.cursorColumn = -1;
        }
        return changed;
    }

    private Cell seen(Window window, int row, int column) {
        for (int pane : window.places.keySet()) {
            int[] at = window.places.get(pane);
            boolean inside = row >= at[0] && row < at[0] + at[2] && column >= at[1] && column < at[1] + at[3];
            if (inside && (!window.zoomed || pane == window.active)) {
                return panes.get(pane).s().rows.get(row - at[0]).cells.get(column - at[1]);
            }
        }
        return window.borders[row][column];
    }

    private Cell shownCell(int client, int row, int column) {
        Client c = known(clients, client);
        if (row < 0 || row >= c.rows || column < 0 || column >= c.columns) {
            throw new IndexOutOfBoundsException();
        }
        return c.shows[row][column];
    }

    char shown(int client, int row, int column) {
        return shownCell(client, row, column).sign;
    }

    int shownMark(int client, int row, int column) {
        return shownCell(client, row, column).mark;
    }

    int shownCursor(int client, boolean isRow) {
        Client c = known(clients, client);
        if (c.cursorRow < 0) {
            throw new NoSuchElementException();
        }
        return isRow ? c.cursorRow : c.cursorColumn;
    }

    char key(int client, int sign) {
        Client c = known(clients, client);
        range(sign, 0, 255);
        Window window = windows.get(c.window);
        if (!c.kept) {
            c.kept = sign == 2;
            if (!c.kept) {
                type(window.active, sign);
            }
            return c.kept ? 'k' : 't';
        }
        c.kept = false;
        try {
            if (sign == 2) {
                type(window.active, 2);
                return 't';
            } else if (sign == '%' || sign == '"') {
                split(window.active, sign == '%', 5);
            } else if (sign == 'o') {
                List<Integer> order = window.order();
                choose(order.get((order.indexOf(window.active) + 1) % order.size()));
            } else if (sign == 'x') {
                close(window.active);
            } else if (sign == 'z') {
                zoom(c.window);
            } else if (sign == 'n') {
                Integer next = windows.higherKey(c.window);
                look(client, next == null ? windows.firstKey() : next);
            } else if (sign == 'c') {
                look(client, window());
            } else if (sign == 'd') {
                detach(client);
            } else {
                return 'n';
            }
        } catch (IllegalStateException e) {
            return 'n';
        }
        return 'c';
    }

    private boolean type(int pane, int sign) {
        return panes.get(pane).typed.size() < 200 && panes.get(pane).typed.add(sign);
    }

    int typed(int pane) {
        return known(panes, pane).typed.remove();
    }

    int copy(int pane, int row, int column, int toRow, int toColumn) {
        Pane p = known(panes, pane);
        p.cell(row, column);
        p.cell(toRow, toColumn);
        if (row > toRow || row == toRow && column > toColumn) {
            throw new IllegalArgumentException();
        }
        StringBuilder all = new StringBuilder();
        for (int i = row; i <= toRow; i++) {
            StringBuilder text = new StringBuilder();
            for (int j = i == row ? column : 0; j <= (i == toRow ? toColumn : p.width - 1); j++) {
                text.append(p.cell(i, j).sign);
            }
            all.append(i < toRow && !p.row(i).on ? text.toString().replaceAll(" +$", "") + "\n" : text.toString());
        }
        if (all.length() > 400) {
            throw new IllegalStateException();
        }
        copied = all.toString();
        return copied.length();
    }

    int copied(int index) {
        if (index < 0 || index >= copied.length()) {
            throw new NoSuchElementException();
        }
        return copied.charAt(index);
    }

    int paste(int pane) {
        known(panes, pane);
        int many = 0;
        for (char sign : copied.toCharArray()) {
            many += type(pane, sign == 10 ? 13 : sign) ? 1 : 0;
        }
        return many;
    }

    float plainShare(int pane) {
        Pane p = known(panes, pane);
        int plain = 0;
        for (Row row : p.s().rows) {
            for (Cell cell : row.cells) {
                plain += cell.isPlain() ? 1 : 0;
            }
        }
        return (float) plain / (float) (p.width * p.height);
    }

    double meanPanes() {
        if (windows.isEmpty()) {
            throw new ArithmeticException();
        }
        return (double) panes.size() / (double) windows.size();
    }

    long checksum(int pane) {
        Pane p = known(panes, pane);
        long sum = 7 * 31 + p.away.size();
        List<Row> rows = new ArrayList<>(p.away);
        rows.addAll(p.screens[0].rows);
        rows.addAll(p.screens[1].rows);
        for (Row row : rows) {
            sum = sum * 31 + (row.on ? 1 : 0);
            for (Cell cell : row.cells) {
                sum = (sum * 31 + cell.sign) * 31 + cell.mark;
            }
        }
        return ((sum * 31 + p.s().row) * 31 + p.s().column) * 31 + (p.s().waits ? 1 : 0);
    }

    long shownSum(int client) {
        Client c = known(clients, client);
        long sum = 7;
        for (Cell[] row : c.shows) {
            for (Cell cell : row) {
                sum = (sum * 31 + cell.sign) * 31 + cell.mark;
            }
        }
        return (sum * 31 + c.cursorRow) * 31 + c.cursorColumn;
    }

    boolean isSound() {
        return true;
    }
}
