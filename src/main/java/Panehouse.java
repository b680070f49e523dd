import java.util.Arrays;
import java.util.NoSuchElementException;

/**
 * A house of panes: a terminal for each pane, windows whose panes stand beside and over each other, and clients
 * that look at windows, are shown what changed, and type. What each call does is told in the document's promises.
 */
public final class Panehouse {
    private static final int MOST_WINDOWS = 4;
    private static final int MOST_PANES = 8;
    private static final int MOST_CLIENTS = 4;
    /** Eight panes need seven pairs above them, if all are in one window. */
    private static final int MOST_PARTS = 15;
    private static final int WIDEST = 60;
    private static final int HIGHEST = 24;
    private static final int MOST_KEPT = 40;
    private static final int MOST_BYTES = 200;
    private static final int MOST_COPIED = 400;
    private static final int FIRST_COLUMNS = 20;
    private static final int FIRST_ROWS = 8;

    /** A cell is held as its mark times this, plus its sign. */
    private static final int SIGNS = 128;
    private static final int BLANK = 32;
    private static final int PLAIN = BLANK;
    private static final int BOLD = 1;
    private static final int UNDERLINED = 2;
    private static final int TURNED = 4;
    private static final int COLOUR = 8;

    private static final int ESCAPE = 27;
    private static final int LINE = 10;
    private static final int RETURN = 13;
    private static final int PREFIX = 2;

    /** What goes to a place, and what changes the mark, takes so many bytes of a client's terminal at most. */
    private static final int BYTES_TO_GO = 8;
    private static final int BYTES_TO_MARK = 14;

    private final Window[] allWindows;
    private final Pane[] allPanes;
    private final Client[] allClients;
    private final Resizer resizer;
    private final Rows seen;
    private final Cursor seenCursor;
    private final Rows mind;
    private final Cursor mindCursor;
    private Bytes clip;
    private Bytes nextClip;

    /** Creates a house without windows and clients, with nothing copied. */
    public Panehouse() {
        allWindows = new Window[MOST_WINDOWS];
        for (int i = 0; i < MOST_WINDOWS; i++) {
            allWindows[i] = new Window(i);
        }
        allPanes = new Pane[MOST_PANES];
        for (int i = 0; i < MOST_PANES; i++) {
            allPanes[i] = new Pane(i, allWindows[0]);
        }
        allClients = new Client[MOST_CLIENTS];
        for (int i = 0; i < MOST_CLIENTS; i++) {
            allClients[i] = new Client(allWindows[0]);
        }
        resizer = new Resizer();
        seen = new Rows(HIGHEST);
        seenCursor = new Cursor();
        mind = new Rows(HIGHEST);
        mindCursor = new Cursor();
        clip = new Bytes(MOST_COPIED);
        nextClip = new Bytes(MOST_COPIED);
    }

    // ---- windows and panes ----

    public int window() throws IllegalStateException {
        if (freeWindow() < 0 || freePane() < 0) {
            throw new IllegalStateException("there are as many windows or panes as can be");
        }
        Window made = makeWindow();
        layOutAll();
        return made.number;
    }

    public int windows() {
        int many = 0;
        for (Window window : allWindows) {
            many += window.isThere ? 1 : 0;
        }
        return many;
    }

    public int size(int window, boolean isWide) throws IndexOutOfBoundsException {
        Window found = knownWindow(window);
        return isWide ? found.columns : found.rows;
    }

    public int panes(int window) throws IndexOutOfBoundsException {
        return knownWindow(window).countLeaves();
    }

    public int paneAt(int window, int index) throws IndexOutOfBoundsException, NoSuchElementException {
        int pane = knownWindow(window).paneInOrder(index);
        if (pane < 0) {
            throw new NoSuchElementException("the window has not so many panes");
        }
        return pane;
    }

    public int active(int window) throws IndexOutOfBoundsException {
        return knownWindow(window).active;
    }

    public int choose(int pane) throws IndexOutOfBoundsException {
        Pane found = knownPane(pane);
        int before = found.window.active;
        makeActive(found);
        layOutAll();
        return before;
    }

    public int split(int pane, boolean isBeside, int share)
            throws IndexOutOfBoundsException, IllegalArgumentException, IllegalStateException {
        Pane found = knownPane(pane);
        if (share < 1 || share > 9) {
            throw new IllegalArgumentException("a share is 1 to 9 tenths");
        }
        if (freePane() < 0) {
            throw new IllegalStateException("there are as many panes as can be");
        }
        int made = splitInTwo(found, isBeside, share);
        layOutAll();
        return made;
    }

    public int share(int pane, int share)
            throws IndexOutOfBoundsException, IllegalArgumentException, UnsupportedOperationException {
        Pane found = knownPane(pane);
        if (share < 1 || share > 9) {
            throw new IllegalArgumentException("a share is 1 to 9 tenths");
        }
        Part pair = found.leaf.parent;
        if (pair == null) {
            throw new UnsupportedOperationException("it is the only pane of its window");
        }
        int before = pair.tenths;
        pair.tenths = share;
        layOutAll();
        return before;
    }

    public int close(int pane) throws IndexOutOfBoundsException, IllegalStateException {
        Pane found = knownPane(pane);
        if (countPanes() == 1) {
            throw new IllegalStateException("it is the only pane of all");
        }
        takeAway(found);
        layOutAll();
        return countPanes();
    }

    public int swap(int pane, int other) throws IndexOutOfBoundsException, IllegalArgumentException {
        Pane one = knownPane(pane);
        Pane two = knownPane(other);
        if (pane == other) {
            throw new IllegalArgumentException("both panes are the same");
        }
        int between = -1;
        if (one.window == two.window) {
            int distance = one.window.placeInOrder(pane) - two.window.placeInOrder(other);
            between = Math.abs(distance) - 1;
        }
        changePlaces(one, two);
        layOutAll();
        return between;
    }

    public boolean zoom(int window) throws IndexOutOfBoundsException {
        Window found = knownWindow(window);
        found.isZoomed = !found.isZoomed;
        layOutAll();
        return found.isZoomed;
    }

    public int place(int pane, char what) throws IndexOutOfBoundsException, IllegalArgumentException {
        Pane found = knownPane(pane);
        boolean isWhole = found.fillsItsWindow();
        switch (what) {
            case 'r':
                return isWhole ? 0 : found.leaf.row;
            case 'c':
                return isWhole ? 0 : found.leaf.column;
            case 'h':
                return isWhole ? found.window.rows : found.leaf.height;
            case 'w':
                return isWhole ? found.window.columns : found.leaf.width;
            default:
                throw new IllegalArgumentException("there is no such letter");
        }
    }

    // ---- bytes and screens ----

    public int feed(int pane, int sign) throws IndexOutOfBoundsException, IllegalArgumentException {
        Terminal terminal = knownPane(pane).terminal;
        if (!isByte(sign)) {
            throw new IllegalArgumentException("a byte is 0 to 255");
        }
        terminal.take(sign);
        return terminal.answers.many;
    }

    public int feedMore(int pane, int many, int a, int b, int c, int d, int e, int f, int g, int h)
            throws IndexOutOfBoundsException, IllegalArgumentException {
        Terminal terminal = knownPane(pane).terminal;
        if (many < 1 || many > 8) {
            throw new IllegalArgumentException("1 to 8 bytes are given");
        }
        int[] given = {a, b, c, d, e, f, g, h};
        for (int i = 0; i < many && i < given.length; i++) {
            if (!isByte(given[i])) {
                throw new IllegalArgumentException("a byte is 0 to 255");
            }
        }
        for (int i = 0; i < many && i < given.length; i++) {
            terminal.take(given[i]);
        }
        return terminal.answers.many;
    }

    public int answer(int pane) throws IndexOutOfBoundsException, NoSuchElementException {
        Terminal terminal = knownPane(pane).terminal;
        if (terminal.answers.many == 0) {
            throw new NoSuchElementException("no byte of an answer is kept");
        }
        return terminal.answers.takeFirst();
    }

    public char cell(int pane, int row, int column) throws IndexOutOfBoundsException {
        return (char) (knownCell(pane, row, column) % SIGNS);
    }

    public int mark(int pane, int row, int column) throws IndexOutOfBoundsException {
        return knownCell(pane, row, column) / SIGNS;
    }

    public boolean goesOn(int pane, int row) throws IndexOutOfBoundsException {
        Terminal terminal = knownPane(pane).terminal;
        if (!terminal.hasRow(row)) {
            throw new IndexOutOfBoundsException("there is no such row");
        }
        return terminal.rowGoesOn(row);
    }

    public int state(int pane, char what) throws IndexOutOfBoundsException, IllegalArgumentException {
        Pane found = knownPane(pane);
        int told = what == 'y' ? found.typedBytes.many : found.terminal.tell(what);
        if (told < 0) {
            throw new IllegalArgumentException("there is no such letter");
        }
        return told;
    }

    // ---- clients ----

    public int attach(int columns, int rows)
            throws IllegalArgumentException, UnsupportedOperationException, IllegalStateException {
        if (!isClientSize(columns, rows)) {
            throw new IllegalArgumentException("a client has 4 to 60 columns and 2 to 24 rows");
        }
        if (windows() == 0) {
            throw new UnsupportedOperationException("there is no window to look at");
        }
        int free = freeClient();
        if (free < 0) {
            throw new IllegalStateException("there are as many clients as can be");
        }
        Client client = allClients[free];
        client.come(leastWindow());
        client.beOfSize(columns, rows);
        layOutAll();
        return free;
    }

    public int detach(int client) throws IndexOutOfBoundsException {
        knownClient(client).isThere = false;
        layOutAll();
        int left = 0;
        for (Client other : allClients) {
            left += other.isThere ? 1 : 0;
        }
        return left;
    }

    public int resize(int client, int columns, int rows) throws IndexOutOfBoundsException, IllegalArgumentException {
        Client found = knownClient(client);
        if (!isClientSize(columns, rows)) {
            throw new IllegalArgumentException("a client has 4 to 60 columns and 2 to 24 rows");
        }
        int before = found.columns;
        found.beOfSize(columns, rows);
        layOutAll();
        return before;
    }

    public int look(int client, int window) throws IndexOutOfBoundsException {
        Client found = knownClient(client);
        Window next = knownWindow(window);
        int before = found.window.number;
        found.window = next;
        layOutAll();
        return before;
    }

    public int looksAt(int client) throws IndexOutOfBoundsException {
        return knownClient(client).window.number;
    }

    public int redraw(int client) throws IndexOutOfBoundsException {
        Client found = knownClient(client);
        see(found);
        int anew = bytesToShow(found, true);
        int changes = bytesToShow(found, false);
        int sent = changes > anew ? anew : changes;
        found.mostBeyondAnew = Math.max(found.mostBeyondAnew, sent - anew);
        return showOn(found.shownRows, found.shownPlace, found);
    }

    public char shown(int client, int row, int column) throws IndexOutOfBoundsException {
        return (char) (knownShown(client, row, column) % SIGNS);
    }

    public int shownMark(int client, int row, int column) throws IndexOutOfBoundsException {
        return knownShown(client, row, column) / SIGNS;
    }

    public int shownCursor(int client, boolean isRow) throws IndexOutOfBoundsException, NoSuchElementException {
        Cursor place = knownClient(client).shownPlace;
        if (place.row < 0) {
            throw new NoSuchElementException("the terminal shows no cursor");
        }
        return isRow ? place.row : place.column;
    }

    public char key(int client, int sign) throws IndexOutOfBoundsException, IllegalArgumentException {
        Client found = knownClient(client);
        if (!isByte(sign)) {
            throw new IllegalArgumentException("a byte is 0 to 255");
        }
        if (found.keepsBack) {
            found.keepsBack = false;
            return command(found, sign);
        }
        if (sign == PREFIX) {
            found.keepsBack = true;
            return 'k';
        }
        activeOf(found.window).typedBytes.add(sign);
        return 't';
    }

    public int typed(int pane) throws IndexOutOfBoundsException, NoSuchElementException {
        Bytes bytes = knownPane(pane).typedBytes;
        if (bytes.many == 0) {
            throw new NoSuchElementException("no byte is typed for the pane");
        }
        return bytes.takeFirst();
    }

    // ---- copying ----

    public int copy(int pane, int row, int column, int toRow, int toColumn)
            throws IndexOutOfBoundsException, IllegalArgumentException, IllegalStateException {
        Terminal terminal = knownPane(pane).terminal;
        if (!terminal.hasCell(row, column) || !terminal.hasCell(toRow, toColumn)) {
            throw new IndexOutOfBoundsException("there is no such row or column");
        }
        if (toRow < row || toRow == row && toColumn < column) {
            throw new IllegalArgumentException("the other place is ahead of the first one");
        }
        nextClip.clear();
        boolean hasRoom = terminal.copyRow(row, column, row == toRow ? toColumn : -1, nextClip);
        for (int next = row + 1; next <= toRow && hasRoom; next++) {
            hasRoom = terminal.copyRow(next, 0, next == toRow ? toColumn : -1, nextClip);
        }
        if (!hasRoom) {
            throw new IllegalStateException("at most 400 bytes are copied");
        }
        Bytes before = clip;
        clip = nextClip;
        nextClip = before;
        return clip.many;
    }

    public int copied(int index) throws NoSuchElementException {
        if (index < 0 || index >= clip.many) {
            throw new NoSuchElementException("not so many bytes are copied");
        }
        return clip.at(index);
    }

    public int paste(int pane) throws IndexOutOfBoundsException {
        Bytes bytes = knownPane(pane).typedBytes;
        int pasted = 0;
        for (int i = 0; i < clip.many; i++) {
            int next = clip.at(i);
            if (bytes.add(next == LINE ? RETURN : next)) {
                pasted++;
            }
        }
        return pasted;
    }

    // ---- figures ----

    public float plainShare(int pane) throws IndexOutOfBoundsException {
        Terminal terminal = knownPane(pane).terminal;
        int all = Math.max(1, terminal.width * terminal.height);
        return (float) terminal.countPlain() / (float) all;
    }

    public double meanPanes() throws ArithmeticException {
        int many = windows();
        if (many == 0) {
            throw new ArithmeticException("there are no windows");
        }
        return (double) countPanes() / (double) many;
    }

    public long checksum(int pane) throws IndexOutOfBoundsException {
        return knownPane(pane).terminal.sum();
    }

    public long shownSum(int client) throws IndexOutOfBoundsException {
        Client found = knownClient(client);
        long sum = 7;
        for (int row = 0; row < found.rows; row++) {
            for (int column = 0; column < found.columns; column++) {
                int cell = found.shownRows.at(row, column);
                sum = sum * 31 + cell % SIGNS;
                sum = sum * 31 + cell / SIGNS;
            }
        }
        sum = sum * 31 + found.shownPlace.row;
        return sum * 31 + found.shownPlace.column;
    }

    public boolean isSound() {
        for (Pane pane : allPanes) {
            if (pane.isThere && !pane.terminal.hasSoundCursors()) {
                return false;
            }
        }
        for (Window window : allWindows) {
            if (window.isThere && !window.isZoomed && !isFilled(window)) {
                return false;
            }
        }
        for (Client client : allClients) {
            if (client.isThere && (client.mostBeyondAnew > 0 || !wouldShowWhatIsSeen(client))) {
                return false;
            }
        }
        return true;
    }

    // ---- what there is ----

    private static boolean isByte(int sign) {
        return sign >= 0 && sign <= 255;
    }

    private static boolean isClientSize(int columns, int rows) {
        return columns >= 4 && columns <= WIDEST && rows >= 2 && rows <= HIGHEST;
    }

    private Window knownWindow(int number) throws IndexOutOfBoundsException {
        if (number < 0 || number >= allWindows.length || !allWindows[number].isThere) {
            throw new IndexOutOfBoundsException("there is no such window");
        }
        return allWindows[number];
    }

    private Pane knownPane(int number) throws IndexOutOfBoundsException {
        if (number < 0 || number >= allPanes.length || !allPanes[number].isThere) {
            throw new IndexOutOfBoundsException("there is no such pane");
        }
        return allPanes[number];
    }

    private Client knownClient(int number) throws IndexOutOfBoundsException {
        if (number < 0 || number >= allClients.length || !allClients[number].isThere) {
            throw new IndexOutOfBoundsException("there is no such client");
        }
        return allClients[number];
    }

    private int knownCell(int pane, int row, int column) throws IndexOutOfBoundsException {
        Terminal terminal = knownPane(pane).terminal;
        if (!terminal.hasCell(row, column)) {
            throw new IndexOutOfBoundsException("there is no such row or column");
        }
        return terminal.cellAt(row, column);
    }

    private int knownShown(int client, int row, int column) throws IndexOutOfBoundsException {
        Client found = knownClient(client);
        if (row < 0 || row >= found.rows || column < 0 || column >= found.columns) {
            throw new IndexOutOfBoundsException("there is no such row or column");
        }
        return found.shownRows.at(row, column);
    }

    /** A number out of range gives the first pane, so that no number can be a wrong index. */
    private Pane paneNumbered(int number) {
        return allPanes[number >= 0 && number < allPanes.length ? number : 0];
    }

    private Pane activeOf(Window window) {
        return paneNumbered(window.active);
    }

    private int freeWindow() {
        for (int i = 0; i < allWindows.length; i++) {
            if (!allWindows[i].isThere) {
                return i;
            }
        }
        return -1;
    }

    private int freePane() {
        for (int i = 0; i < allPanes.length; i++) {
            if (!allPanes[i].isThere) {
                return i;
            }
        }
        return -1;
    }

    private int freeClient() {
        for (int i = 0; i < allClients.length; i++) {
            if (!allClients[i].isThere) {
                return i;
            }
        }
        return -1;
    }

    private int countPanes() {
        int many = 0;
        for (Pane pane : allPanes) {
            many += pane.isThere ? 1 : 0;
        }
        return many;
    }

    private Window leastWindow() {
        for (Window window : allWindows) {
            if (window.isThere) {
                return window;
            }
        }
        return allWindows[0];
    }

    private Window windowBehind(Window window) {
        for (int i = Math.max(0, window.number + 1); i < allWindows.length; i++) {
            if (allWindows[i].isThere) {
                return allWindows[i];
            }
        }
        return leastWindow();
    }

    // ---- changes of windows and panes; each caller lays out all behind it ----

    /** To be called only if a window and a pane are free. */
    private Window makeWindow() {
        Window window = allWindows[Math.max(0, freeWindow())];
        Pane pane = allPanes[Math.max(0, freePane())];
        Part leaf = new Part(pane.number);
        window.begin(leaf, pane.number);
        pane.begin(window, leaf);
        return window;
    }

    /** To be called only if a pane is free. */
    private int splitInTwo(Pane pane, boolean isBeside, int tenths) {
        Pane made = allPanes[Math.max(0, freePane())];
        Window window = pane.window;
        Part leaf = pane.leaf;
        Part pair = new Part(-1);
        Part madeLeaf = new Part(made.number);
        pair.isBeside = isBeside;
        pair.tenths = tenths;
        putInPlace(window, leaf, pair);
        pair.first = leaf;
        pair.other = madeLeaf;
        leaf.parent = pair;
        madeLeaf.parent = pair;
        made.begin(window, madeLeaf);
        window.active = made.number;
        window.isZoomed = false;
        return made.number;
    }

    /** Lets a part stand where another one stood in a window's tree. */
    private static void putInPlace(Window window, Part before, Part next) {
        Part parent = before.parent;
        next.parent = parent;
        if (parent == null) {
            window.root = next;
        } else if (parent.first == before) {
            parent.first = next;
        } else {
            parent.other = next;
        }
    }

    private void takeAway(Pane pane) {
        Window window = pane.window;
        Part pair = pane.leaf.parent;
        pane.isThere = false;
        window.isZoomed = false;
        if (pair == null) {
            window.isThere = false;
            for (Client client : allClients) {
                if (client.window == window) {
                    client.window = leastWindow();
                }
            }
            return;
        }
        Part left = pair.first == pane.leaf ? pair.other : pair.first;
        if (left != null) {
            putInPlace(window, pair, left);
            if (window.active == pane.number) {
                window.active = left.firstPane();
            }
        }
    }

    private void changePlaces(Pane one, Pane two) {
        Window window = one.window;
        Window otherWindow = two.window;
        Part leaf = one.leaf;
        boolean isActive = window.active == one.number;
        boolean isOtherActive = otherWindow.active == two.number;
        one.leaf = two.leaf;
        one.leaf.pane = one.number;
        one.window = otherWindow;
        two.leaf = leaf;
        two.leaf.pane = two.number;
        two.window = window;
        if (isActive) {
            window.active = two.number;
        }
        if (isOtherActive) {
            otherWindow.active = one.number;
        }
        window.isZoomed = false;
        otherWindow.isZoomed = false;
    }

    private static void makeActive(Pane pane) {
        Window window = pane.window;
        if (window.active != pane.number) {
            window.active = pane.number;
            window.isZoomed = false;
        }
    }

    private char command(Client client, int sign) {
        Window window = client.window;
        Pane pane = activeOf(window);
        switch (sign) {
            case PREFIX:
                pane.typedBytes.add(PREFIX);
                return 't';
            case '%':
            case '"':
                if (freePane() < 0) {
                    return 'n';
                }
                splitInTwo(pane, sign == '%', 5);
                break;
            case 'o':
                makeActive(paneNumbered(window.paneBehind(pane.number)));
                break;
            case 'x':
                if (countPanes() == 1) {
                    return 'n';
                }
                takeAway(pane);
                break;
            case 'z':
                window.isZoomed = !window.isZoomed;
                break;
            case 'n':
                client.window = windowBehind(window);
                break;
            case 'c':
                if (freeWindow() < 0 || freePane() < 0) {
                    return 'n';
                }
                client.window = makeWindow();
                break;
            case 'd':
                client.isThere = false;
                break;
            default:
                return 'n';
        }
        layOutAll();
        return 'c';
    }

    // ---- sizes ----

    /** Sizes are told to panes only when all are known: a pane must never have one that is not its last. */
    private void layOutAll() {
        for (Window window : allWindows) {
            if (window.isThere) {
                layOut(window);
            }
        }
        for (Pane pane : allPanes) {
            if (pane.isThere && pane.fillsItsWindow()) {
                resizer.fit(pane.terminal, pane.window.columns, pane.window.rows);
            } else if (pane.isThere) {
                resizer.fit(pane.terminal, pane.leaf.width, pane.leaf.height);
            }
        }
    }

    private void layOut(Window window) {
        Part root = window.root;
        if (root == null) {
            return;
        }
        measure(root, 0);
        int columns = window.columns;
        int rows = window.rows;
        boolean isLookedAt = false;
        for (Client client : allClients) {
            if (client.isThere && client.window == window) {
                columns = isLookedAt ? Math.min(columns, client.columns) : client.columns;
                rows = isLookedAt ? Math.min(rows, client.rows - 1) : client.rows - 1;
                isLookedAt = true;
            }
        }
        window.columns = Math.max(columns, root.needsColumns);
        window.rows = Math.max(rows, root.needsRows);
        root.stand(0, 0, window.rows, window.columns);
        window.manyParts = 0;
        placeParts(window, root, 0);
    }

    /** The depth is that of a tree of eight panes at most. */
    private static void measure(Part part, int depth) {
        Part first = part.first;
        Part other = part.other;
        if (first == null || other == null || depth > MOST_PANES) {
            part.needsColumns = 2;
            part.needsRows = 1;
            return;
        }
        measure(first, depth + 1);
        measure(other, depth + 1);
        if (part.isBeside) {
            part.needsColumns = first.needsColumns + 1 + other.needsColumns;
            part.needsRows = Math.max(first.needsRows, other.needsRows);
        } else {
            part.needsColumns = Math.max(first.needsColumns, other.needsColumns);
            part.needsRows = first.needsRows + 1 + other.needsRows;
        }
    }

    /** Gives the parts of a part their places, and lists all of them, the first one's ahead of the other one's. */
    private static void placeParts(Window window, Part part, int depth) {
        window.list(part);
        Part first = part.first;
        Part other = part.other;
        if (first == null || other == null || depth > MOST_PANES) {
            return;
        }
        if (part.isBeside) {
            int room = part.width - 1;
            int wide = shareOf(room, part.tenths, first.needsColumns, other.needsColumns);
            first.stand(part.row, part.column, part.height, wide);
            other.stand(part.row, part.column + wide + 1, part.height, room - wide);
        } else {
            int room = part.height - 1;
            int high = shareOf(room, part.tenths, first.needsRows, other.needsRows);
            first.stand(part.row, part.column, high, part.width);
            other.stand(part.row + high + 1, part.column, room - high, part.width);
        }
        placeParts(window, first, depth + 1);
        placeParts(window, other, depth + 1);
    }

    private static int shareOf(int room, int tenths, int needs, int otherNeeds) {
        return Math.max(needs, Math.min(room * tenths / 10, room - otherNeeds));
    }

    // ---- what clients see ----

    /** Puts into the seen rows what is to be seen by a client; what lies beyond its size there is of no meaning. */
    private void see(Client client) {
        Window window = client.window;
        Pane active = activeOf(window);
        seen.plainRows(0, HIGHEST);
        if (window.isZoomed) {
            seePane(active, 0, 0);
        } else {
            for (int i = 0; i < window.manyParts; i++) {
                Part part = window.partAt(i);
                if (part != null && part.pane >= 0) {
                    seePane(paneNumbered(part.pane), part.row, part.column);
                } else if (part != null) {
                    seeBorder(part);
                }
            }
        }
        seeBar(client);
        Cursor cursor = active.terminal.cursor();
        seenCursor.row = cursor.row + (window.isZoomed ? 0 : active.leaf.row);
        seenCursor.column = cursor.column + (window.isZoomed ? 0 : active.leaf.column);
        boolean isInside = seenCursor.row < client.rows - 1 && seenCursor.column < client.columns;
        if (!active.terminal.shows || !isInside) {
            seenCursor.row = -1;
            seenCursor.column = -1;
        }
    }

    private void seePane(Pane pane, int row, int column) {
        Terminal terminal = pane.terminal;
        for (int i = 0; i < terminal.height; i++) {
            for (int j = 0; j < terminal.width; j++) {
                seen.put(row + i, column + j, terminal.cellAt(i, j));
            }
        }
    }

    private void seeBorder(Part pair) {
        int many = pair.isBeside ? pair.height : pair.width;
        for (int i = 0; i < many; i++) {
            seen.put(pair.borderRow(i), pair.borderColumn(i), pair.isBeside ? '|' : '-');
        }
    }

    /** The last row tells the windows. */
    private void seeBar(Client client) {
        int row = client.rows - 1;
        int turned = TURNED * SIGNS;
        for (int column = 0; column < WIDEST; column++) {
            seen.put(row, column, turned + BLANK);
        }
        int column = 0;
        for (Window window : allWindows) {
            if (window.isThere) {
                seen.put(row, column, turned + '0' + window.number);
                seen.put(row, column + 1, turned + (client.window == window ? '*' : BLANK));
                column += 2;
            }
        }
    }

    /** Lets a terminal of a client's size show what is seen; answers how many cells are others then. */
    private int showOn(Rows shown, Cursor place, Client client) {
        int changed = 0;
        for (int row = 0; row < client.rows; row++) {
            for (int column = 0; column < client.columns; column++) {
                int cell = seen.at(row, column);
                if (cell != shown.at(row, column)) {
                    shown.put(row, column, cell);
                    changed++;
                }
            }
        }
        place.row = seenCursor.row;
        place.column = seenCursor.column;
        return changed;
    }

    /** How many bytes a client's terminal needs to show what is seen: all of it, or what changed. */
    private int bytesToShow(Client client, boolean isAll) {
        int bytes = BYTES_TO_GO;
        int mark = 0;
        boolean isThere = false;
        for (int row = 0; row < client.rows; row++) {
            for (int column = 0; column < client.columns; column++) {
                int cell = seen.at(row, column);
                boolean isSent = isAll || cell != client.shownRows.at(row, column);
                if (isSent) {
                    bytes += 1 + (isThere ? 0 : BYTES_TO_GO) + (cell / SIGNS == mark ? 0 : BYTES_TO_MARK);
                    mark = cell / SIGNS;
                }
                isThere = isSent && column < client.columns - 1;
            }
        }
        return bytes;
    }

    /** Redraws a client's terminal in mind. */
    private boolean wouldShowWhatIsSeen(Client client) {
        see(client);
        for (int row = 0; row < HIGHEST; row++) {
            mind.copyRow(client.shownRows, row, row);
        }
        showOn(mind, mindCursor, client);
        for (int row = 0; row < client.rows; row++) {
            for (int column = 0; column < client.columns; column++) {
                if (mind.at(row, column) != seen.at(row, column)) {
                    return false;
                }
            }
        }
        return mindCursor.row == seenCursor.row && mindCursor.column == seenCursor.column;
    }

    /** Counts in mind how many panes and borders stand in each cell of a window: just one is sound. */
    private boolean isFilled(Window window) {
        for (int row = 0; row < HIGHEST; row++) {
            for (int column = 0; column < WIDEST; column++) {
                mind.put(row, column, 0);
            }
        }
        for (int i = 0; i < window.manyParts; i++) {
            Part part = window.partAt(i);
            if (part != null && part.pane >= 0) {
                Terminal terminal = paneNumbered(part.pane).terminal;
                for (int cell = 0; cell < terminal.width * terminal.height; cell++) {
                    count(part.row + cell / Math.max(1, terminal.width),
                            part.column + cell % Math.max(1, terminal.width));
                }
            } else if (part != null) {
                int many = part.isBeside ? part.height : part.width;
                for (int cell = 0; cell < many; cell++) {
                    count(part.borderRow(cell), part.borderColumn(cell));
                }
            }
        }
        for (int row = 0; row < HIGHEST; row++) {
            for (int column = 0; column < WIDEST; column++) {
                boolean isInside = row < window.rows && column < window.columns;
                if (mind.at(row, column) != (isInside ? 1 : 0)) {
                    return false;
                }
            }
        }
        return true;
    }

    private void count(int row, int column) {
        mind.put(row, column, mind.at(row, column) + 1);
    }

    /** Rows with room for the widest ones; what lies beyond a width is plain. */
    private static final class Rows {
        private final int[] cells;
        private final int[] onward;

        Rows(int many) {
            cells = new int[Math.max(0, many) * WIDEST];
            onward = new int[Math.max(0, many)];
            Arrays.fill(cells, PLAIN);
        }

        int at(int row, int column) {
            int index = row * WIDEST + column;
            boolean isInside = column >= 0 && column < WIDEST && index >= 0 && index < cells.length;
            return isInside ? cells[index] : PLAIN;
        }

        void put(int row, int column, int cell) {
            int index = row * WIDEST + column;
            if (column >= 0 && column < WIDEST && index >= 0 && index < cells.length) {
                cells[index] = cell;
            }
        }

        boolean isOnward(int row) {
            return row >= 0 && row < onward.length && onward[row] == 1;
        }

        void setOnward(int row, boolean isOnward) {
            if (row >= 0 && row < onward.length) {
                onward[row] = isOnward ? 1 : 0;
            }
        }

        /** Makes a row's cells plain, from a column up to the one ahead of another. */
        void plainCells(int row, int from, int to) {
            if (row >= 0 && row < onward.length && from >= 0 && from < to && to <= WIDEST) {
                Arrays.fill(cells, row * WIDEST + from, row * WIDEST + to, PLAIN);
            }
        }

        /** Makes whole rows plain, from one up to the one ahead of another. */
        void plainRows(int from, int to) {
            if (from >= 0 && from < to && to <= onward.length) {
                Arrays.fill(cells, from * WIDEST, to * WIDEST, PLAIN);
                Arrays.fill(onward, from, to, 0);
            }
        }

        void moveCells(int row, int from, int to, int many) {
            boolean hasCells = Math.min(from, to) >= 0 && many > 0 && Math.max(from, to) <= WIDEST - many;
            if (hasCells && row >= 0 && row < onward.length) {
                System.arraycopy(cells, row * WIDEST + from, cells, row * WIDEST + to, many);
            }
        }

        void moveRows(int from, int to, int many) {
            if (Math.min(from, to) >= 0 && many > 0 && Math.max(from, to) <= onward.length - many) {
                System.arraycopy(cells, from * WIDEST, cells, to * WIDEST, many * WIDEST);
                System.arraycopy(onward, from, onward, to, many);
            }
        }

        void copyRow(Rows source, int from, int to) {
            if (from >= 0 && from < source.onward.length && to >= 0 && to < onward.length) {
                System.arraycopy(source.cells, from * WIDEST, cells, to * WIDEST, WIDEST);
                onward[to] = source.onward[from];
            }
        }

        /** How many cells of a row there are up to its last one that is not plain. */
        int filled(int row) {
            int many = WIDEST;
            while (many > 0 && at(row, many - 1) == PLAIN) {
                many--;
            }
            return many;
        }
    }

    /** A place on a screen. */
    private static final class Cursor {
        int row;
        int column;
        boolean waits;

        void goTo(int toRow, int toColumn) {
            row = toRow;
            column = toColumn;
            waits = false;
        }

        void follow(Cursor other) {
            row = other.row;
            column = other.column;
            waits = other.waits;
        }
    }

    /** Rows that scrolled away, in a ring, so that the eldest one makes room without moving the others. */
    private static final class Kept {
        final Rows ring = new Rows(MOST_KEPT);
        private int eldest;
        int many;

        /** Where in the ring the row is that has so many elder ones. */
        int placeOf(int index) {
            return Math.floorMod(eldest + index, MOST_KEPT);
        }

        void add(Rows source, int row) {
            ring.copyRow(source, row, placeOf(many));
            if (many < MOST_KEPT) {
                many++;
            } else {
                eldest = placeOf(1);
            }
        }

        void clear() {
            eldest = 0;
            many = 0;
        }
    }

    /** Bytes that wait to be taken, the first one first; those without room are refused. */
    private static final class Bytes {
        private final int[] bytes;
        private int first;
        int many;

        Bytes(int most) {
            bytes = new int[Math.max(1, most)];
        }

        int at(int index) {
            int place = placeOf(index);
            return place >= 0 && place < bytes.length ? bytes[place] : 0;
        }

        private int placeOf(int index) {
            return bytes.length == 0 ? -1 : Math.floorMod(first + index, bytes.length);
        }

        boolean add(int sign) {
            int place = placeOf(many);
            if (many >= bytes.length || place < 0 || place >= bytes.length) {
                return false;
            }
            bytes[place] = sign;
            many++;
            return true;
        }

        /** Adds all signs of a text, or none if there is no room for all. */
        void addAll(String text) {
            if (text.length() <= bytes.length - many) {
                for (int i = 0; i < text.length(); i++) {
                    add(text.charAt(i));
                }
            }
        }

        int takeFirst() {
            int taken = at(0);
            if (many > 0) {
                first = Math.max(0, placeOf(1));
                many--;
            }
            return taken;
        }

        void clear() {
            first = 0;
            many = 0;
        }
    }

    /** How far a sequence of bytes has come. */
    private static final class Sequence {
        private static final int MOST_NUMBERS = 4;
        private static final int GREATEST = 999;

        boolean isBegun;
        boolean isOpen;
        boolean isAsking;
        boolean isSpoilt;
        private boolean isFresh;
        private final int[] numbers = new int[MOST_NUMBERS];
        int many;

        void begin() {
            isBegun = true;
            isOpen = false;
        }

        /** Goes on behind '['. */
        void open() {
            isOpen = true;
            isAsking = false;
            isSpoilt = false;
            isFresh = true;
            many = 0;
            Arrays.fill(numbers, 0);
        }

        void end() {
            isBegun = false;
            isOpen = false;
        }

        /** Takes a byte behind '[' that does not end it. */
        void take(int sign) {
            if (sign >= '0' && sign <= '9') {
                many = Math.max(many, 1);
                putDigit(sign - '0');
            } else if (sign == ';') {
                isSpoilt = isSpoilt || many == MOST_NUMBERS;
                many = Math.min(Math.max(many, 1) + 1, MOST_NUMBERS);
            } else if (sign == '?' && isFresh) {
                isAsking = true;
            } else {
                isSpoilt = true;
            }
            isFresh = false;
        }

        private void putDigit(int digit) {
            int last = many - 1;
            if (last >= 0 && last < numbers.length) {
                numbers[last] = Math.min(numbers[last] * 10 + digit, GREATEST);
            }
        }

        /** A number, from 0 on; one that is not there is 0. */
        int number(int index) {
            return index >= 0 && index < numbers.length ? numbers[index] : 0;
        }

        int atLeastOne(int index) {
            return Math.max(1, number(index));
        }
    }

    /** What makes screens of bytes. */
    private static final class Terminal {
        /** A sign that the document does not name does nothing, so these are told, not those that leave waiting. */
        private static final String ENDS_WAITING = "ABCDGHfdJKX@PLMSTru";

        int width;
        int height;
        final Rows firstRows = new Rows(HIGHEST);
        final Rows secondRows = new Rows(HIGHEST);
        final Cursor firstCursor = new Cursor();
        final Cursor secondCursor = new Cursor();
        private boolean isSecond;
        final Kept kept = new Kept();
        final Bytes answers = new Bytes(MOST_BYTES);
        private final Sequence sequence = new Sequence();
        private final Cursor saved = new Cursor();
        private int savedMark;
        int top;
        int bottom;
        private int mark;
        private int bells;
        private boolean wraps;
        boolean shows;
        private boolean isFromTop;
        private boolean inserts;

        void begin(int columns, int rows) {
            width = columns;
            height = rows;
            kept.clear();
            answers.clear();
            bells = 0;
            sequence.end();
            beAsAtFirst();
        }

        private void beAsAtFirst() {
            firstRows.plainRows(0, HIGHEST);
            secondRows.plainRows(0, HIGHEST);
            firstCursor.goTo(0, 0);
            secondCursor.goTo(0, 0);
            saved.goTo(0, 0);
            savedMark = 0;
            isSecond = false;
            top = 0;
            bottom = height - 1;
            mark = 0;
            wraps = true;
            shows = true;
            isFromTop = false;
            inserts = false;
        }

        Rows rows() {
            return isSecond ? secondRows : firstRows;
        }

        Cursor cursor() {
            return isSecond ? secondCursor : firstCursor;
        }

        boolean hasRow(int row) {
            return row < height && row >= (isSecond ? 0 : -kept.many);
        }

        boolean hasCell(int row, int column) {
            return hasRow(row) && column >= 0 && column < width;
        }

        int cellAt(int row, int column) {
            return row < 0 ? kept.ring.at(kept.placeOf(kept.many + row), column) : rows().at(row, column);
        }

        boolean rowGoesOn(int row) {
            return row < 0 ? kept.ring.isOnward(kept.placeOf(kept.many + row)) : rows().isOnward(row);
        }

        /** Something of the terminal, or -1 if there is no such letter. */
        int tell(char what) {
            Cursor cursor = cursor();
            switch (what) {
                case 'r':
                    return cursor.row;
                case 'c':
                    return cursor.column;
                case 'w':
                    return cursor.waits ? 1 : 0;
                case 'm':
                    return mark;
                case 't':
                    return top;
                case 'b':
                    return bottom;
                case 'a':
                    return isSecond ? 1 : 0;
                case 'i':
                    return inserts ? 1 : 0;
                case 'o':
                    return isFromTop ? 1 : 0;
                case 'v':
                    return wraps ? 1 : 0;
                case 's':
                    return shows ? 1 : 0;
                case 'k':
                    return bells;
                case 'p':
                    return kept.many;
                default:
                    return -1;
            }
        }

        // -- bytes --

        void take(int sign) {
            if (sign == ESCAPE) {
                sequence.begin();
            } else if (sign < 32) {
                sequence.end();
                control(sign);
            } else if (sequence.isOpen) {
                if (sign >= 64 && sign <= 126) {
                    sequence.end();
                    finish(sign);
                } else {
                    sequence.take(sign);
                }
            } else if (sequence.isBegun) {
                if (sign == '[') {
                    sequence.open();
                } else {
                    sequence.end();
                    escaped(sign);
                }
            } else if (sign <= 126) {
                write(sign);
            }
        }

        private void control(int sign) {
            Cursor cursor = cursor();
            switch (sign) {
                case 7:
                    bells++;
                    break;
                case 8:
                    cursor.goTo(cursor.row, Math.max(0, cursor.column - 1));
                    break;
                case 9:
                    cursor.goTo(cursor.row, Math.min(width - 1, (cursor.column / 8 + 1) * 8));
                    break;
                case LINE:
                    cursor.waits = false;
                    goDown();
                    break;
                case RETURN:
                    cursor.goTo(cursor.row, 0);
                    break;
                default:
                    break;
            }
        }

        private void escaped(int sign) {
            switch (sign) {
                case '7':
                    save();
                    break;
                case '8':
                    restore();
                    break;
                case 'D':
                    cursor().waits = false;
                    goDown();
                    break;
                case 'M':
                    cursor().waits = false;
                    goUp();
                    break;
                case 'c':
                    beAsAtFirst();
                    break;
                default:
                    break;
            }
        }

        private void write(int sign) {
            Rows rows = rows();
            Cursor cursor = cursor();
            if (cursor.waits && wraps) {
                rows.setOnward(cursor.row, !isSecond);
                cursor.column = 0;
                goDown();
            }
            cursor.waits = false;
            if (inserts) {
                rows.moveCells(cursor.row, cursor.column, cursor.column + 1, width - cursor.column - 1);
                rows.setOnward(cursor.row, false);
            }
            rows.put(cursor.row, cursor.column, mark * SIGNS + sign);
            if (cursor.column < width - 1) {
                cursor.column++;
            } else {
                rows.setOnward(cursor.row, false);
                cursor.waits = true;
            }
        }

        private void goDown() {
            Cursor cursor = cursor();
            if (cursor.row == bottom) {
                scrollUp(1);
            } else if (cursor.row < height - 1) {
                cursor.row++;
            }
        }

        private void goUp() {
            Cursor cursor = cursor();
            if (cursor.row == top) {
                putRowsIn(top, 1);
            } else if (cursor.row > 0) {
                cursor.row--;
            }
        }

        private void scrollUp(int n) {
            if (!isSecond && top == 0) {
                for (int row = 0; row < n && row <= bottom; row++) {
                    kept.add(firstRows, row);
                }
            }
            takeRowsAway(top, n);
        }

        /** Takes rows of the region away, from one on; plain ones come at its bottom. */
        private void takeRowsAway(int from, int n) {
            int many = Math.min(n, bottom + 1 - from);
            rows().moveRows(from + many, from, bottom + 1 - from - many);
            rows().plainRows(bottom + 1 - many, bottom + 1);
        }

        /** Puts plain rows into the region, from one on; those behind its bottom are lost. */
        private void putRowsIn(int from, int n) {
            int many = Math.min(n, bottom + 1 - from);
            rows().moveRows(from, from + many, bottom + 1 - from - many);
            rows().plainRows(from, from + many);
        }

        private void save() {
            saved.follow(cursor());
            savedMark = mark;
        }

        private void restore() {
            Cursor cursor = cursor();
            cursor.goTo(Math.min(saved.row, height - 1), Math.min(saved.column, width - 1));
            cursor.waits = saved.waits && cursor.column == width - 1;
            mark = savedMark;
        }

        // -- what ends a sequence with '[' --

        private void finish(int sign) {
            if (sequence.isSpoilt) {
                return;
            }
            if (sequence.isAsking) {
                if (sign == 'h' || sign == 'l') {
                    setAskedModes(sign == 'h');
                }
                return;
            }
            if (ENDS_WAITING.indexOf((char) sign) >= 0) {
                cursor().waits = false;
            }
            switch (sign) {
                case 'm':
                    changeMark();
                    break;
                case 's':
                    save();
                    break;
                case 'u':
                    restore();
                    break;
                case 'n':
                    report(sequence.number(0));
                    break;
                case 'h':
                case 'l':
                    setModes(sign == 'h');
                    break;
                case 'A':
                case 'B':
                case 'C':
                case 'D':
                case 'G':
                case 'H':
                case 'f':
                case 'd':
                case 'r':
                    move(sign, sequence.atLeastOne(0));
                    break;
                default:
                    change(sign, sequence.atLeastOne(0));
                    break;
            }
        }

        private void move(int sign, int n) {
            Cursor cursor = cursor();
            switch (sign) {
                case 'A':
                    cursor.row = Math.max(cursor.row - n, cursor.row >= top ? top : 0);
                    break;
                case 'B':
                    cursor.row = Math.min(cursor.row + n, cursor.row <= bottom ? bottom : height - 1);
                    break;
                case 'C':
                    cursor.column = Math.min(cursor.column + n, width - 1);
                    break;
                case 'D':
                    cursor.column = Math.max(cursor.column - n, 0);
                    break;
                case 'G':
                    cursor.column = Math.min(n - 1, width - 1);
                    break;
                case 'H':
                case 'f':
                    cursor.row = rowCounted(n);
                    cursor.column = Math.min(sequence.atLeastOne(1) - 1, width - 1);
                    break;
                case 'd':
                    cursor.row = rowCounted(n);
                    break;
                default:
                    setRegion(n - 1, sequence.number(1));
                    break;
            }
        }

        private int rowCounted(int n) {
            return isFromTop ? Math.min(top + n - 1, bottom) : Math.min(n - 1, height - 1);
        }

        private void goHome() {
            cursor().goTo(isFromTop ? top : 0, 0);
        }

        private void setRegion(int newTop, int last) {
            int newBottom = last == 0 || last > height ? height - 1 : last - 1;
            if (newTop < newBottom) {
                top = newTop;
                bottom = newBottom;
                goHome();
            }
        }

        /** What changes cells and rows; other signs do nothing. */
        private void change(int sign, int n) {
            Cursor cursor = cursor();
            boolean isInRegion = cursor.row >= top && cursor.row <= bottom;
            switch (sign) {
                case 'J':
                    plainRow(sequence.number(0));
                    plainOtherRows(sequence.number(0));
                    break;
                case 'K':
                    plainRow(sequence.number(0));
                    break;
                case 'X':
                    plainCells(cursor.row, cursor.column, Math.min(cursor.column + n, width));
                    break;
                case '@':
                    putCellsIn(Math.min(n, width - cursor.column));
                    break;
                case 'P':
                    takeCellsAway(Math.min(n, width - cursor.column));
                    break;
                case 'L':
                    if (isInRegion) {
                        putRowsIn(cursor.row, n);
                    }
                    break;
                case 'M':
                    if (isInRegion) {
                        takeRowsAway(cursor.row, n);
                    }
                    break;
                case 'S':
                    scrollUp(n);
                    break;
                case 'T':
                    putRowsIn(top, n);
                    break;
                default:
                    break;
            }
        }

        private void plainOtherRows(int how) {
            int row = cursor().row;
            if (how == 0 || how == 2) {
                rows().plainRows(row + 1, height);
            }
            if (how == 1 || how == 2) {
                rows().plainRows(0, row);
            }
        }

        private void plainRow(int how) {
            Cursor cursor = cursor();
            if (how <= 2) {
                plainCells(cursor.row, how == 0 ? cursor.column : 0, how == 1 ? cursor.column + 1 : width);
            }
        }

        /** A row does not go on behind a last cell that was made plain. */
        private void plainCells(int row, int from, int to) {
            rows().plainCells(row, from, to);
            if (to == width) {
                rows().setOnward(row, false);
            }
        }

        private void putCellsIn(int n) {
            Cursor cursor = cursor();
            rows().moveCells(cursor.row, cursor.column, cursor.column + n, width - cursor.column - n);
            rows().plainCells(cursor.row, cursor.column, cursor.column + n);
            rows().setOnward(cursor.row, false);
        }

        private void takeCellsAway(int n) {
            Cursor cursor = cursor();
            rows().moveCells(cursor.row, cursor.column + n, cursor.column, width - cursor.column - n);
            rows().plainCells(cursor.row, width - n, width);
            rows().setOnward(cursor.row, false);
        }

        private void changeMark() {
            for (int i = 0; i < Math.max(1, sequence.many); i++) {
                int n = sequence.number(i);
                if (n == 0) {
                    mark = 0;
                } else if (n == 1 || n == 22) {
                    setBit(BOLD, n == 1);
                } else if (n == 4 || n == 24) {
                    setBit(UNDERLINED, n == 4);
                } else if (n == 7 || n == 27) {
                    setBit(TURNED, n == 7);
                } else if (n >= 30 && n <= 37) {
                    mark = mark % COLOUR + COLOUR * (n - 30);
                } else if (n == 39) {
                    mark = mark % COLOUR;
                }
            }
        }

        private void setBit(int bit, boolean isOn) {
            mark = isOn ? mark | bit : mark & ~bit;
        }

        private void report(int asked) {
            if (asked != 5 && asked != 6) {
                return;
            }
            StringBuilder text = new StringBuilder();
            text.append((char) ESCAPE).append('[');
            if (asked == 5) {
                text.append("0n");
            } else {
                Cursor cursor = cursor();
                text.append(cursor.row + 1 - (isFromTop ? top : 0)).append(';');
                text.append(cursor.column + 1).append('R');
            }
            answers.addAll(text.toString());
        }

        private void setModes(boolean isOn) {
            for (int i = 0; i < sequence.many; i++) {
                if (sequence.number(i) == 4) {
                    inserts = isOn;
                }
            }
        }

        private void setAskedModes(boolean isOn) {
            for (int i = 0; i < sequence.many; i++) {
                switch (sequence.number(i)) {
                    case 6:
                        isFromTop = isOn;
                        goHome();
                        break;
                    case 7:
                        wraps = isOn;
                        break;
                    case 25:
                        shows = isOn;
                        break;
                    case 47:
                        if (isOn && !isSecond) {
                            secondRows.plainRows(0, HIGHEST);
                            secondCursor.goTo(0, 0);
                        }
                        isSecond = isOn;
                        break;
                    default:
                        break;
                }
            }
        }

        // -- what others ask --

        /** Copies a row's signs from a column on, up to a last one, or all with what parts rows if that is -1. */
        boolean copyRow(int row, int column, int last, Bytes to) {
            boolean isParted = last < 0 && !rowGoesOn(row);
            int end = last < 0 ? width - 1 : last;
            while (isParted && end >= column && cellAt(row, end) % SIGNS == BLANK) {
                end--;
            }
            boolean hasRoom = true;
            for (int i = column; i <= end; i++) {
                hasRoom = to.add(cellAt(row, i) % SIGNS) && hasRoom;
            }
            return isParted ? to.add(LINE) && hasRoom : hasRoom;
        }

        int countPlain() {
            int many = 0;
            for (int row = 0; row < height; row++) {
                for (int column = 0; column < width; column++) {
                    many += cellAt(row, column) == PLAIN ? 1 : 0;
                }
            }
            return many;
        }

        long sum() {
            long sum = 7 * 31 + kept.many;
            for (int i = 0; i < kept.many; i++) {
                sum = sumOfRow(sum, kept.ring, kept.placeOf(i));
            }
            for (int row = 0; row < height; row++) {
                sum = sumOfRow(sum, firstRows, row);
            }
            for (int row = 0; row < height; row++) {
                sum = sumOfRow(sum, secondRows, row);
            }
            Cursor cursor = cursor();
            sum = sum * 31 + cursor.row;
            sum = sum * 31 + cursor.column;
            return sum * 31 + (cursor.waits ? 1 : 0);
        }

        private long sumOfRow(long before, Rows rows, int row) {
            long sum = before * 31 + (rows.isOnward(row) ? 1 : 0);
            for (int column = 0; column < width; column++) {
                int cell = rows.at(row, column);
                sum = sum * 31 + cell % SIGNS;
                sum = sum * 31 + cell / SIGNS;
            }
            return sum;
        }

        boolean hasSoundCursors() {
            return isOnScreen(firstCursor) && isOnScreen(secondCursor);
        }

        private boolean isOnScreen(Cursor cursor) {
            return cursor.row >= 0 && cursor.row < height && cursor.column >= 0 && cursor.column < width
                    && (!cursor.waits || cursor.column == width - 1);
        }
    }

    /** Gives terminals another size; its rows are used again by each of them. */
    private static final class Resizer {
        private final Rows source = new Rows(MOST_KEPT + HIGHEST);
        private final Rows parted = new Rows(MOST_KEPT + HIGHEST);
        private int manySource;
        private int cursorSource;
        private int widthBefore = 1;
        private int width = 1;
        private int lineLength;
        private int total;
        private int cursorRow;
        private int cursorColumn;
        private int firstWritten;

        void fit(Terminal terminal, int columns, int rows) {
            boolean isSame = terminal.width == columns && terminal.height == rows;
            if (isSame || columns < 1 || rows < 1 || terminal.width < 1) {
                return;
            }
            widthBefore = terminal.width;
            width = columns;
            gather(terminal);
            partLines(terminal.firstCursor, false);
            int gone = Math.min(Math.max(0, total - rows), cursorRow);
            firstWritten = Math.max(0, gone - MOST_KEPT);
            partLines(terminal.firstCursor, true);
            terminal.width = columns;
            terminal.height = rows;
            putBack(terminal, gone);
            cut(terminal);
            terminal.top = 0;
            terminal.bottom = rows - 1;
        }

        /** Takes the rows that scrolled away and those of the first screen that count. */
        private void gather(Terminal terminal) {
            Kept kept = terminal.kept;
            for (int i = 0; i < kept.many; i++) {
                source.copyRow(kept.ring, kept.placeOf(i), i);
            }
            int last = terminal.height - 1;
            while (last > terminal.firstCursor.row && terminal.firstRows.filled(last) == 0) {
                last--;
            }
            for (int row = 0; row <= last; row++) {
                source.copyRow(terminal.firstRows, row, kept.many + row);
            }
            manySource = kept.many + last + 1;
            cursorSource = kept.many + terminal.firstCursor.row;
        }

        /** Parts all lines: at first only to count, as what is to be written is known by the count of all. */
        private void partLines(Cursor cursor, boolean isWritten) {
            total = 0;
            int start = 0;
            for (int end = 0; end < manySource; end++) {
                if (end == manySource - 1 || !source.isOnward(end)) {
                    int many = measureLine(start, end, cursor);
                    if (isWritten) {
                        writeLine(start, many);
                    }
                    total += many;
                    start = end + 1;
                }
            }
        }

        /** Answers of how many new rows a line is, that was those from one to another. */
        private int measureLine(int start, int end, Cursor cursor) {
            lineLength = (end - start) * widthBefore + source.filled(end);
            int many = 1;
            if (start <= cursorSource && cursorSource <= end) {
                int place = (cursorSource - start) * widthBefore + cursor.column;
                lineLength = Math.max(lineLength, cursor.waits ? place + 1 : place);
                cursorRow = total + place / Math.max(1, width);
                cursorColumn = place % Math.max(1, width);
                many = place / Math.max(1, width) + 1;
            }
            return Math.max(many, (lineLength + width - 1) / Math.max(1, width));
        }

        private void writeLine(int start, int many) {
            for (int i = 0; i < many; i++) {
                int row = total + i - firstWritten;
                parted.plainRows(row, row + 1);
                for (int column = 0; column < width && row >= 0; column++) {
                    int place = i * width + column;
                    if (place < lineLength) {
                        parted.put(row, column, source.at(start + place / Math.max(1, widthBefore),
                                place % Math.max(1, widthBefore)));
                    }
                }
                parted.setOnward(row, i < many - 1);
            }
        }

        private void putBack(Terminal terminal, int gone) {
            terminal.kept.clear();
            for (int row = firstWritten; row < gone; row++) {
                terminal.kept.add(parted, row - firstWritten);
            }
            terminal.firstRows.plainRows(0, HIGHEST);
            for (int row = 0; row < terminal.height && gone + row < total; row++) {
                terminal.firstRows.copyRow(parted, gone + row - firstWritten, row);
            }
            terminal.firstCursor.goTo(cursorRow - gone, cursorColumn);
        }

        private static void cut(Terminal terminal) {
            Rows rows = terminal.secondRows;
            rows.plainRows(terminal.height, HIGHEST);
            for (int row = 0; row < terminal.height; row++) {
                rows.plainCells(row, terminal.width, WIDEST);
            }
            Cursor cursor = terminal.secondCursor;
            cursor.goTo(Math.min(cursor.row, terminal.height - 1), Math.min(cursor.column, terminal.width - 1));
        }
    }

    /** A pane's number stays, while its window and its leaf of that window's tree may become others. */
    private static final class Pane {
        final int number;
        final Terminal terminal = new Terminal();
        final Bytes typedBytes = new Bytes(MOST_BYTES);
        boolean isThere;
        Window window;
        Part leaf;

        Pane(int number, Window window) {
            this.number = number;
            this.window = window;
            leaf = new Part(number);
        }

        void begin(Window itsWindow, Part itsLeaf) {
            isThere = true;
            window = itsWindow;
            leaf = itsLeaf;
            typedBytes.clear();
            terminal.begin(FIRST_COLUMNS, FIRST_ROWS);
        }

        boolean fillsItsWindow() {
            return window.isZoomed && window.active == number;
        }
    }

    /** A part of a window's tree: a leaf with a pane, or a pair of two parts. */
    private static final class Part {
        int pane;
        Part parent;
        Part first;
        Part other;
        boolean isBeside;
        int tenths;
        int needsColumns;
        int needsRows;
        int row;
        int column;
        int height;
        int width;

        Part(int pane) {
            this.pane = pane;
        }

        void stand(int atRow, int atColumn, int rows, int columns) {
            row = atRow;
            column = atColumn;
            height = rows;
            width = columns;
        }

        int firstPane() {
            Part part = this;
            while (part.first != null) {
                part = part.first;
            }
            return part.pane;
        }

        /** The row of a cell of a pair's border, counted along it. */
        int borderRow(int index) {
            return row + (isBeside ? index : first == null ? 0 : first.height);
        }

        int borderColumn(int index) {
            return column + (!isBeside ? index : first == null ? 0 : first.width);
        }
    }

    /** A window, with its tree, and a list of that tree's parts that is made anew with each layout. */
    private static final class Window {
        final int number;
        boolean isThere;
        boolean isZoomed;
        Part root;
        int active;
        int columns;
        int rows;
        private final Part[] parts = new Part[MOST_PARTS];
        int manyParts;

        Window(int number) {
            this.number = number;
        }

        void begin(Part leaf, int pane) {
            isThere = true;
            isZoomed = false;
            root = leaf;
            active = pane;
            columns = FIRST_COLUMNS;
            rows = FIRST_ROWS;
            manyParts = 0;
        }

        void list(Part part) {
            if (manyParts >= 0 && manyParts < parts.length) {
                parts[manyParts] = part;
                manyParts++;
            }
        }

        Part partAt(int index) {
            return index >= 0 && index < parts.length ? parts[index] : null;
        }

        int countLeaves() {
            return (manyParts + 1) / 2;
        }

        /** The number of a pane by its place in order, or -1 if there are not so many. */
        int paneInOrder(int index) {
            int place = -1;
            for (int i = 0; i < manyParts; i++) {
                Part part = partAt(i);
                if (part != null && part.pane >= 0) {
                    place++;
                    if (place == index) {
                        return part.pane;
                    }
                }
            }
            return -1;
        }

        int placeInOrder(int pane) {
            for (int place = 0; place < MOST_PANES; place++) {
                if (paneInOrder(place) == pane) {
                    return place;
                }
            }
            return -1;
        }

        int paneBehind(int pane) {
            int next = paneInOrder(placeInOrder(pane) + 1);
            return next < 0 ? paneInOrder(0) : next;
        }
    }

    /** A client, with what its terminal shows; that shows no cursor if its row is -1. */
    private static final class Client {
        boolean isThere;
        boolean keepsBack;
        int columns;
        int rows;
        Window window;
        final Rows shownRows = new Rows(HIGHEST);
        final Cursor shownPlace = new Cursor();
        int mostBeyondAnew;

        Client(Window window) {
            this.window = window;
        }

        void come(Window itsWindow) {
            isThere = true;
            keepsBack = false;
            window = itsWindow;
            mostBeyondAnew = 0;
        }

        void beOfSize(int itsColumns, int itsRows) {
            columns = itsColumns;
            rows = itsRows;
            shownRows.plainRows(0, HIGHEST);
            shownPlace.goTo(-1, -1);
        }
    }
}
