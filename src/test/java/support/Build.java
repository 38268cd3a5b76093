/** Short ways to fill an object. */
final class Build {
    private Build() {
    }

    /** A row with these columns, all of colour 0; its number. */
    static int row(LinkedCovers x, int... columns) {
        int number = x.row();
        for (int column : columns) {
            x.entry(column, 0);
        }
        return number;
    }

    /** A row with these columns and colours, by turns. */
    static int painted(LinkedCovers x, int... columnsAndColours) {
        int number = x.row();
        for (int i = 0; i + 1 < columnsAndColours.length; i += 2) {
            x.entry(columnsAndColours[i], columnsAndColours[i + 1]);
        }
        return number;
    }

    static void cubes(LinkedCovers x, int... places) {
        for (int i = 0; i + 2 < places.length; i += 3) {
            x.cube(places[i], places[i + 1], places[i + 2]);
        }
    }

    /** A turn that exchanges these columns, two by two. */
    static int turn(LinkedCovers x, int... pairs) {
        int number = x.turn();
        for (int i = 0; i + 1 < pairs.length; i += 2) {
            x.exchange(number, pairs[i], pairs[i + 1]);
        }
        return number;
    }

    /** Three rows of one column for each of 20 columns: 3^20 ways, far beyond the limit of nodes. */
    static LinkedCovers threeOfEach() {
        LinkedCovers x = new LinkedCovers(20, 0);
        for (int i = 0; i < 60; i++) {
            row(x, i / 3);
        }
        return x;
    }

    /** The rows of way k as a text. */
    static String way(LinkedCovers x, int k) {
        StringBuilder text = new StringBuilder();
        for (int i = 0; x.way(k, i) != -1; i++) {
            text.append(i == 0 ? "" : " ").append(x.way(k, i));
        }
        return text.toString();
    }

    /** A row's columns as a text. */
    static String columns(LinkedCovers x, int row) {
        StringBuilder text = new StringBuilder();
        for (int i = 1; i <= x.tell(row, 0); i++) {
            text.append(i == 1 ? "" : " ").append(x.tell(row, i));
        }
        return text.toString();
    }
}
