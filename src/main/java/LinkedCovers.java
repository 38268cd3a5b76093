/** Covers by rows, all ways of them, and their classes under turns of the columns. */
public final class LinkedCovers {
    private static final int MOST_COLUMNS = 24;
    private static final int MOST_ROWS = 60;
    private static final int MOST_ENTRIES = 8;
    private static final int MOST_TIMES = 3;
    private static final int LAST_COLOUR = 7;
    private static final int MOST_CUBES = 7;
    private static final int LAST_TURN_KIND = 3;
    private static final int MOST_TURNS = 8;
    private static final int MOST_NODES = 50000;
    private static final int MOST_WAYS = 100000;
    private static final int MOST_KEPT = 100;
    private static final int REFUSED = -1;
    private static final int TOO_MANY = -2;

    private final Table table;
    private final Piece shape;
    private final Turns turnings;
    // classes() searches too, and must leave what ways() found alone.
    private final Search latest;
    private final Search whole;
    private final int[] takenOrder = new int[MOST_ROWS];
    private int takenCount;
    private long takenRows;
    private boolean waysStand;

    public LinkedCovers(int columns, int optional) {
        int columnCount = Math.max(1, Math.min(MOST_COLUMNS, columns));
        int optionalCount = Math.max(0, Math.min(columnCount, optional));
        table = new Table(columnCount, columnCount - optionalCount);
        shape = new Piece();
        turnings = new Turns(table);
        latest = new Search(table);
        whole = new Search(table);
    }

    public boolean times(int column, int n) throws ArrayIndexOutOfBoundsException {
        requireColumn(column);
        if (n < 1 || n > MOST_TIMES || !table.isNeeded(column) || takenCount > 0) {
            return false;
        }
        table.due[column] = n;
        waysStand = false;
        return true;
    }

    public int row() {
        if (takenCount > 0 || table.room() < 1) {
            return REFUSED;
        }
        waysStand = false;
        return table.addRow();
    }

    public boolean entry(int column, int colour) throws ArrayIndexOutOfBoundsException, IllegalArgumentException {
        requireColumn(column);
        if (colour < 0 || colour > LAST_COLOUR) {
            throw new IllegalArgumentException("the colour is not 0 .. 7");
        }
        if (takenCount > 0 || !table.lastRowTakes(column)) {
            return false;
        }
        table.addToLastRow(column, colour);
        waysStand = false;
        return true;
    }

    public boolean cube(int x, int y, int z) {
        return shape.addCube(x, y, z);
    }

    public int lay(int w, int h, int d, int turns, int piece)
            throws ArrayIndexOutOfBoundsException, IllegalArgumentException {
        if (piece != -1) {
            requireColumn(piece);
        }
        boolean asked = table.holdsBox(w, h, d) && turns >= 0 && turns <= LAST_TURN_KIND;
        if (!asked || shape.isEmpty() || takenCount > 0) {
            return REFUSED;
        }
        if (piece != -1 && piece < w * h * d) {
            throw new IllegalArgumentException("the piece's column is one of the box");
        }
        shape.chooseBox(w, h, d);
        int came = shape.findSets(turns, table.room());
        if (came < 0) {
            return REFUSED;
        }
        addLaidRows(came, piece == -1 ? 0 : 1 << piece);
        return came;
    }

    private void addLaidRows(int came, int besides) {
        for (int i = 0; i < came; i++) {
            table.addRowOf(shape.sets[i] | besides);
        }
        shape.clear();
        if (came > 0) {
            waysStand = false;
        }
    }

    public boolean take(int row) throws ArrayIndexOutOfBoundsException {
        requireRow(row);
        if (takenCount >= MOST_ROWS || (table.fitting(takenRows) >> row & 1L) == 0) {
            return false;
        }
        takenOrder[takenCount] = row;
        takenCount++;
        takenRows |= 1L << row;
        waysStand = false;
        return true;
    }

    public int untake() {
        if (takenCount < 1) {
            return REFUSED;
        }
        takenCount--;
        int row = takenOrder[takenCount];
        takenRows &= ~(1L << row);
        waysStand = false;
        return row;
    }

    public int open(int column) throws ArrayIndexOutOfBoundsException {
        requireColumn(column);
        return Long.bitCount(table.fitting(takenRows) & table.rowsOf[column]);
    }

    public int ways(int most) {
        if (most < 1 || most > MOST_WAYS) {
            return REFUSED;
        }
        waysStand = true;
        return latest.run(takenRows, most);
    }

    public int nodes() {
        return latest.nodeCount;
    }

    public int way(int k, int i) {
        if (!waysStand || k < 0 || k >= latest.keptCount()) {
            return REFUSED;
        }
        return memberAt(latest.kept[k], i);
    }

    public int turn() {
        return turnings.addTurn();
    }

    public boolean exchange(int turn, int a, int b) throws ArrayIndexOutOfBoundsException {
        if (turn < 0 || turn >= turnings.count) {
            throw new ArrayIndexOutOfBoundsException("there is no such turn");
        }
        requireColumn(a);
        requireColumn(b);
        if (a == b) {
            return false;
        }
        turnings.swapTargets(turn, a, b);
        return true;
    }

    public int classes() {
        if (table.hasAlikeRows() || !turnings.keepTable()) {
            return REFUSED;
        }
        int found = whole.run(0L, MOST_KEPT + 1);
        if (found < 0 || found > MOST_KEPT) {
            return TOO_MANY;
        }
        return turnings.countClasses(whole.kept, found);
    }

    public int tell(int row, int what) throws ArrayIndexOutOfBoundsException {
        requireRow(row);
        int columns = table.columnsOf[row];
        return what == 0 ? Integer.bitCount(columns) : memberAt(columns, what - 1);
    }

    private void requireColumn(int column) {
        if (column < 0 || column >= table.columnCount) {
            throw new ArrayIndexOutOfBoundsException("there is no such column");
        }
    }

    private void requireRow(int row) {
        if (row < 0 || row >= table.rowCount) {
            throw new ArrayIndexOutOfBoundsException("there is no such row");
        }
    }

    /** The member of a set (of rows or columns, as bits) that has just so many lesser ones, or -1. */
    private static int memberAt(long set, int lesser) {
        int seen = 0;
        for (int member = 0; member < MOST_ROWS; member++) {
            if ((set >> member & 1L) != 0) {
                if (seen == lesser) {
                    return member;
                }
                seen++;
            }
        }
        return -1;
    }

    /** The columns and rows. Sets of columns are bits of an int, sets of rows bits of a long. */
    private static final class Table {
        final int columnCount;
        final int neededCount;
        // Optional columns keep 0 here, so that one comparison tells kind and TIMES apart.
        final int[] due;
        final int[] columnsOf = new int[MOST_ROWS];
        final byte[] colours = new byte[MOST_ROWS * MOST_COLUMNS];
        final long[] rowsOf = new long[MOST_COLUMNS];
        final long[] clashesOf = new long[MOST_ROWS];
        int rowCount;

        Table(int columnCount, int neededCount) {
            this.columnCount = columnCount;
            this.neededCount = neededCount;
            due = new int[MOST_COLUMNS];
            for (int column = 0; column < neededCount; column++) {
                due[column] = 1;
            }
        }

        boolean isNeeded(int column) {
            return column < neededCount;
        }

        int room() {
            return MOST_ROWS - rowCount;
        }

        boolean holdsBox(int w, int h, int d) {
            // Each side is tested alone first, so that their product stays a small number.
            return w >= 1 && h >= 1 && d >= 1 && w <= columnCount && h <= columnCount && d <= columnCount
                    && w * h * d <= columnCount;
        }

        int addRow() {
            rowCount++;
            return rowCount - 1;
        }

        void addRowOf(int columns) {
            addRow();
            for (int column = 0; column < columnCount; column++) {
                if ((columns >> column & 1) != 0) {
                    addToLastRow(column, 0);
                }
            }
        }

        boolean lastRowTakes(int column) {
            if (rowCount < 1) {
                return false;
            }
            int columns = columnsOf[rowCount - 1];
            return (columns >> column & 1) == 0 && Integer.bitCount(columns) < MOST_ENTRIES;
        }

        void addToLastRow(int column, int colour) {
            int row = rowCount - 1;
            if (row < 0 || row >= MOST_ROWS) {
                return;
            }
            // A needed column's colour does not matter: it stays 0, so that rows compare without it.
            if (!isNeeded(column)) {
                markClashes(row, column, colour);
                colours[row * MOST_COLUMNS + column] = (byte) colour;
            }
            columnsOf[row] |= 1 << column;
            rowsOf[column] |= 1L << row;
        }

        /** Optional columns are a matter of pairs of rows alone, so each pair is judged once, here. */
        private void markClashes(int row, int column, int colour) {
            for (int other = 0; other < row; other++) {
                boolean shared = (rowsOf[column] >> other & 1L) != 0;
                if (shared && (colour == 0 || colour != colours[other * MOST_COLUMNS + column])) {
                    clashesOf[row] |= 1L << other;
                    clashesOf[other] |= 1L << row;
                }
            }
        }

        int neededColumns() {
            return (1 << neededCount) - 1;
        }

        /** Those of some needed columns that the chosen rows do not cover often enough. */
        int uncovered(int columns, long chosen) {
            int result = 0;
            for (int column = 0; column < neededCount; column++) {
                if ((columns >> column & 1) != 0 && Long.bitCount(rowsOf[column] & chosen) < due[column]) {
                    result |= 1 << column;
                }
            }
            return result;
        }

        long rowsWithAny(int columns) {
            long result = 0L;
            for (int column = 0; column < columnCount; column++) {
                if ((columns >> column & 1) != 0) {
                    result |= rowsOf[column];
                }
            }
            return result;
        }

        /** The rows that could be chosen beside the chosen ones. */
        long fitting(long chosen) {
            int needed = neededColumns();
            int covered = needed & ~uncovered(needed, chosen);
            long fit = rowsWithAny(needed) & ~chosen & ~rowsWithAny(covered);
            for (int row = 0; row < rowCount; row++) {
                if ((clashesOf[row] & chosen) != 0) {
                    fit &= ~(1L << row);
                }
            }
            return fit;
        }

        /** The one of some columns with the fewest free rows, the least of alike ones; -1 of no columns. */
        int columnOfFewest(int columns, long free) {
            int best = -1;
            int fewest = MOST_ROWS + 1;
            for (int column = 0; column < neededCount; column++) {
                if ((columns >> column & 1) != 0) {
                    int count = Long.bitCount(rowsOf[column] & free);
                    if (count < fewest) {
                        best = column;
                        fewest = count;
                    }
                }
            }
            return best;
        }

        boolean hasAlikeRows() {
            for (int row = 0; row < rowCount; row++) {
                for (int other = 0; other < row; other++) {
                    if (columnsOf[row] == columnsOf[other] && haveSameColours(row, other)) {
                        return true;
                    }
                }
            }
            return false;
        }

        private boolean haveSameColours(int row, int other) {
            for (int column = 0; column < columnCount; column++) {
                if (colours[row * MOST_COLUMNS + column] != colours[other * MOST_COLUMNS + column]) {
                    return false;
                }
            }
            return true;
        }
    }

    /** THE SEARCH, with its own stack of nodes: level n has n rows more than it began with. */
    private static final class Search {
        private final Table table;
        private final long[] chosen = new long[MOST_ROWS + 1];
        private final long[] free = new long[MOST_ROWS + 1];
        private final long[] untried = new long[MOST_ROWS + 1];
        private final int[] uncovered = new int[MOST_ROWS + 1];
        final long[] kept = new long[MOST_KEPT];
        int nodeCount;
        private int found;

        Search(Table table) {
            this.table = table;
        }

        int keptCount() {
            return Math.min(found, MOST_KEPT);
        }

        int run(long start, int most) {
            nodeCount = 0;
            found = 0;
            chosen[0] = start;
            free[0] = table.fitting(start);
            uncovered[0] = table.uncovered(table.neededColumns(), start);
            comeTo(0);
            int level = 0;
            // Each step comes to a node or leaves one, and each node is left once.
            for (int step = 0; step < 2 * MOST_NODES && level >= 0; step++) {
                if (nodeCount >= MOST_NODES) {
                    return TOO_MANY;
                }
                if (found >= most) {
                    return found;
                }
                int row = lowestRow(untried[level]);
                if (row < 0 || level >= MOST_ROWS) {
                    level--;
                } else {
                    chooseRow(level, row);
                    level++;
                    comeTo(level);
                }
            }
            return found;
        }

        private void comeTo(int level) {
            nodeCount++;
            untried[level] = 0L;
            // With this many nodes the search is over before it looks what the last one is.
            if (nodeCount >= MOST_NODES) {
                return;
            }
            int column = table.columnOfFewest(uncovered[level], free[level]);
            if (column < 0) {
                keepWay(chosen[level]);
            } else {
                untried[level] = free[level] & table.rowsOf[column];
            }
        }

        private void keepWay(long way) {
            if (found < MOST_KEPT) {
                kept[found] = way;
            }
            found++;
        }

        private static int lowestRow(long rows) {
            int row = Long.numberOfTrailingZeros(rows);
            return row < MOST_ROWS ? row : -1;
        }

        private void chooseRow(int level, int row) {
            long bit = 1L << row;
            untried[level] &= ~bit;
            // No more free on this level: that bars it for the rows of this column that follow.
            free[level] &= ~bit;
            long next = chosen[level] | bit;
            int touched = uncovered[level] & table.columnsOf[row];
            int covered = touched & ~table.uncovered(touched, next);
            chosen[level + 1] = next;
            uncovered[level + 1] = uncovered[level] & ~covered;
            free[level + 1] = free[level] & ~table.clashesOf[row] & ~table.rowsWithAny(covered);
        }
    }

    /** THE PIECE: its cubes as bits of a box of 3 by 3 by 3, and the sets of columns it comes to. */
    private static final class Piece {
        private static final int SIDE = 3;
        private static final int LAYER = 9;
        private static final int CELLS = 27;
        private static final int ORDERS = 6;
        private static final int EVEN_ORDERS = 3;
        private static final int FLIPS = 8;
        private static final int Z = 2;
        // Which old axis each new axis comes from, three numbers an order; the even orders stand first.
        private static final int[] AXES = {0, 1, 2, 1, 2, 0, 2, 0, 1, 0, 2, 1, 2, 1, 0, 1, 0, 2};

        final int[] sets = new int[MOST_ROWS];
        private int cubes;
        private int width;
        private int height;
        private int depth;
        private int setCount;
        private boolean roomIsShort;

        boolean addCube(int x, int y, int z) {
            if (x < 0 || x >= SIDE || y < 0 || y >= SIDE || z < 0 || z >= SIDE) {
                return false;
            }
            int bit = 1 << (x + SIDE * y + LAYER * z);
            if ((cubes & bit) != 0 || Integer.bitCount(cubes) >= MOST_CUBES) {
                return false;
            }
            cubes |= bit;
            return true;
        }

        boolean isEmpty() {
            return cubes == 0;
        }

        void clear() {
            cubes = 0;
        }

        void chooseBox(int w, int h, int d) {
            width = w;
            height = h;
            depth = d;
        }

        /** How many sets come, which then stand in sets, rising; -1 when there is no room for them. */
        int findSets(int kind, int room) {
            setCount = 0;
            roomIsShort = false;
            for (int order = 0; order < ORDERS; order++) {
                for (int flips = 0; flips < FLIPS; flips++) {
                    if (isTurn(order, flips) && isOfKind(kind, order, flips)) {
                        moveAbout(turned(order, flips), room);
                    }
                }
            }
            return roomIsShort ? -1 : setCount;
        }

        /** No mirror image: an odd order of the axes goes with an odd number of flips. */
        private static boolean isTurn(int order, int flips) {
            boolean oddOrder = order >= EVEN_ORDERS;
            boolean oddFlips = (Integer.bitCount(flips) & 1) != 0;
            return oddOrder == oddFlips;
        }

        private static boolean isOfKind(int kind, int order, int flips) {
            boolean zStays = AXES[order * SIDE + Z] == Z;
            boolean zFlips = (flips >> Z & 1) != 0;
            switch (kind) {
                case 0:
                    return order == 0 && flips == 0;
                case 1:
                    return zStays && !zFlips;
                case 2:
                    return zStays;
                default:
                    return true;
            }
        }

        private int turned(int order, int flips) {
            int result = 0;
            for (int cell = 0; cell < CELLS; cell++) {
                if ((cubes >> cell & 1) != 0) {
                    result |= 1 << turnedCell(cell, order, flips);
                }
            }
            return result;
        }

        private static int turnedCell(int cell, int order, int flips) {
            int result = 0;
            int weight = 1;
            for (int axis = 0; axis < SIDE; axis++) {
                int place = placeOn(cell, AXES[order * SIDE + axis]);
                boolean flipped = (flips >> axis & 1) != 0;
                result += weight * (flipped ? SIDE - 1 - place : place);
                weight *= SIDE;
            }
            return result;
        }

        private static int placeOn(int cell, int axis) {
            if (axis == 0) {
                return cell % SIDE;
            }
            return axis == 1 ? cell / SIDE % SIDE : cell / LAYER;
        }

        private void moveAbout(int turned, int room) {
            for (int dz = 1 - SIDE; dz < depth; dz++) {
                for (int dy = 1 - SIDE; dy < height; dy++) {
                    for (int dx = 1 - SIDE; dx < width; dx++) {
                        int set = setAt(turned, dx, dy, dz);
                        if (set != 0) {
                            keepSet(set, room);
                        }
                    }
                }
            }
        }

        /** The set of columns of the moved piece, 0 when it is not whole in the box. */
        private int setAt(int turned, int dx, int dy, int dz) {
            int set = 0;
            for (int cell = 0; cell < CELLS; cell++) {
                if ((turned >> cell & 1) != 0) {
                    int x = placeOn(cell, 0) + dx;
                    int y = placeOn(cell, 1) + dy;
                    int z = placeOn(cell, Z) + dz;
                    if (x < 0 || x >= width || y < 0 || y >= height || z < 0 || z >= depth) {
                        return 0;
                    }
                    set |= 1 << (x + width * (y + height * z));
                }
            }
            return set;
        }

        private void keepSet(int set, int room) {
            int place = 0;
            while (place < setCount && sets[place] < set) {
                place++;
            }
            if (place < setCount && sets[place] == set) {
                return;
            }
            if (setCount >= room || setCount >= MOST_ROWS) {
                roomIsShort = true;
                return;
            }
            for (int i = setCount; i > place; i--) {
                sets[i] = sets[i - 1];
            }
            sets[place] = set;
            setCount++;
        }
    }

    /** The TURNS of the columns, and what they make of rows and ways. */
    private static final class Turns {
        private final Table table;
        private final int[] targets = new int[MOST_TURNS * MOST_COLUMNS];
        private final int[] rowImages = new int[MOST_TURNS * MOST_ROWS];
        private final int[] classOf = new int[MOST_KEPT];
        int count;

        Turns(Table table) {
            this.table = table;
        }

        int addTurn() {
            if (count >= MOST_TURNS) {
                return -1;
            }
            for (int column = 0; column < MOST_COLUMNS; column++) {
                targets[count * MOST_COLUMNS + column] = column;
            }
            count++;
            return count - 1;
        }

        void swapTargets(int turn, int a, int b) {
            int first = turn * MOST_COLUMNS + a;
            int second = turn * MOST_COLUMNS + b;
            int target = targets[first];
            targets[first] = targets[second];
            targets[second] = target;
        }

        /** Whether each turn takes columns to their like and rows to rows; these are then in rowImages. */
        boolean keepTable() {
            for (int turn = 0; turn < count; turn++) {
                if (!keepsColumns(turn) || !findRowImages(turn)) {
                    return false;
                }
            }
            return true;
        }

        private boolean keepsColumns(int turn) {
            for (int column = 0; column < table.columnCount; column++) {
                if (table.due[column] != table.due[targets[turn * MOST_COLUMNS + column]]) {
                    return false;
                }
            }
            return true;
        }

        private boolean findRowImages(int turn) {
            for (int row = 0; row < table.rowCount; row++) {
                int image = rowImage(turn, row);
                if (image < 0) {
                    return false;
                }
                rowImages[turn * MOST_ROWS + row] = image;
            }
            return true;
        }

        private int rowImage(int turn, int row) {
            for (int other = 0; other < table.rowCount; other++) {
                if (goesTo(turn, row, other)) {
                    return other;
                }
            }
            return -1;
        }

        private boolean goesTo(int turn, int row, int other) {
            for (int column = 0; column < table.columnCount; column++) {
                int target = targets[turn * MOST_COLUMNS + column];
                boolean has = (table.columnsOf[row] >> column & 1) != 0;
                boolean otherHas = (table.columnsOf[other] >> target & 1) != 0;
                int colour = table.colours[row * MOST_COLUMNS + column];
                if (has != otherHas || colour != table.colours[other * MOST_COLUMNS + target]) {
                    return false;
                }
            }
            return true;
        }

        /** Turns are one to one, so ways that can be joined by images are all of a class. */
        int countClasses(long[] ways, int wayCount) {
            int classCount = wayCount;
            for (int way = 0; way < wayCount; way++) {
                classOf[way] = way;
            }
            for (int turn = 0; turn < count; turn++) {
                for (int way = 0; way < wayCount; way++) {
                    int image = indexOf(ways, wayCount, wayImage(turn, ways[way]));
                    if (image >= 0 && classOf[image] != classOf[way]) {
                        joinClasses(classOf[image], classOf[way], wayCount);
                        classCount--;
                    }
                }
            }
            return classCount;
        }

        private long wayImage(int turn, long way) {
            long image = 0L;
            for (int row = 0; row < table.rowCount; row++) {
                if ((way >> row & 1L) != 0) {
                    image |= 1L << rowImages[turn * MOST_ROWS + row];
                }
            }
            return image;
        }

        private static int indexOf(long[] ways, int wayCount, long way) {
            for (int i = 0; i < wayCount; i++) {
                if (ways[i] == way) {
                    return i;
                }
            }
            return -1;
        }

        private void joinClasses(int from, int into, int wayCount) {
            for (int way = 0; way < wayCount; way++) {
                if (classOf[way] == from) {
                    classOf[way] = into;
                }
            }
        }
    }
}
