/** Short ways to fill an object. */
final class Build {
    /** Ways of nodesByChain(). */
    static final int CHAIN_WAYS = 2 * 2 * 2 * 2 * 3 * 5 * 9 * 22;
    private static final int[] CHAIN = {2, 2, 2, 2, 3, 5, 9, 22};

    private Build() {
    }

    /** A row with these columns, all of colour 0; its number. */
    static int row(LinkedCovers x, int... columns) {
        int number = x.row();
        for (int column : columns) {
            x.entry(column, 0);
        }
        return number;
    }

    /** A row with these columns and colours, by turns. */
    static int painted(LinkedCovers x, int... columnsAndColours) {
        int number = x.row();
        for (int i = 0; i + 1 < columnsAndColours.length; i += 2) {
            x.entry(columnsAndColours[i], columnsAndColours[i + 1]);
        }
        return number;
    }

    static void cubes(LinkedCovers x, int... places) {
        for (int i = 0; i + 2 < places.length; i += 3) {
            x.cube(places[i], places[i + 1], places[i + 2]);
        }
    }

    /** A turn that exchanges these columns, two by two. */
    static int turn(LinkedCovers x, int... pairs) {
        int number = x.turn();
        for (int i = 0; i + 1 < pairs.length; i += 2) {
            x.exchange(number, pairs[i], pairs[i + 1]);
        }
        return number;
    }

    /** Three rows of one column for each of 20 columns: 3^20 ways, far beyond the limit of nodes. */
    static LinkedCovers threeOfEach() {
        LinkedCovers x = new LinkedCovers(20, 0);
        for (int i = 0; i < 60; i++) {
            row(x, i / 3);
        }
        return x;
    }

    /**
     * Columns of one row each, so many, and then columns of 2, 2, 2, 2, 3, 5, 9 and 22 rows, each row of one
     * column: 1 + 2 (1 + 2 (1 + 2 (1 + 2 (1 + 3 (1 + 5 (1 + 9 (1 + 22))))))) = 49,999 nodes, and one more for
     * each column of one row.
     */
    static LinkedCovers nodesByChain(int single) {
        LinkedCovers x = new LinkedCovers(single + CHAIN.length, 0);
        for (int column = 0; column < single; column++) {
            row(x, column);
        }
        for (int link = 0; link < CHAIN.length; link++) {
            for (int i = 0; i < CHAIN[link]; i++) {
                row(x, single + link);
            }
        }
        return x;
    }

    /**
     * The same nodes with rows that are all unlike and without a way: each column has an optional one of its
     * own for its colours, and the last, due twice, has rows that exclude one another.
     */
    static LinkedCovers chainWithoutWays(int single) {
        int needed = single + CHAIN.length;
        LinkedCovers x = new LinkedCovers(needed + CHAIN.length + 2, CHAIN.length + 2);
        for (int column = 0; column < single; column++) {
            row(x, column);
        }
        for (int link = 0; link + 1 < CHAIN.length; link++) {
            for (int i = 0; i < CHAIN[link]; i++) {
                row(x, single + link);
                if (i > 0) {
                    x.entry(needed + link, i - 1);
                }
            }
        }
        int last = CHAIN.length - 1;
        x.times(needed - 1, 2);
        for (int i = 0; i < CHAIN[last]; i++) {
            painted(x, needed - 1, 0, needed + last, 0, needed + last + 1, i % 8, needed + last + 2, i / 8);
        }
        return x;
    }

    /** The rows of way k as a text. */
    static String way(LinkedCovers x, int k) {
        StringBuilder text = new StringBuilder();
        for (int i = 0; x.way(k, i) != -1; i++) {
            text.append(i == 0 ? "" : " ").append(x.way(k, i));
        }
        return text.toString();
    }

    /** A row's columns as a text. */
    static String columns(LinkedCovers x, int row) {
        StringBuilder text = new StringBuilder();
        for (int i = 1; i <= x.tell(row, 0); i++) {
            text.append(i == 1 ? "" : " ").append(x.tell(row, i));
        }
        return text.toString();
    }
}
