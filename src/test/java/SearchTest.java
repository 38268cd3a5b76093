/** THE SEARCH: which column is chosen, which rows are gone through and barred, what is counted. */
public final class SearchTest {
    private static final Checks CHECKS = new Checks();

    public static void main(String[] args) {
        fewestRows();
        leastOfAlike();
        unfitRowsAreNotCounted();
        chosenRowsAreNotCounted();
        barredRowsAreNotCounted();
        timesLeftAreNotCounted();
        rowsByNumbers();
        barredNoLonger();
        fromRowsTaken();
        nodesWithoutWays();
        CHECKS.end();
    }

    private static void holds(String what, LinkedCovers x, int nodes, String... ways) {
        CHECKS.same(what + ": ways", x.ways(1000), ways.length);
        CHECKS.same(what + ": nodes", x.nodes(), nodes);
        for (int k = 0; k < ways.length; k++) {
            CHECKS.yes(what + ": way " + k + " is " + Build.way(x, k), Build.way(x, k).equals(ways[k]));
        }
    }

    private static void fewestRows() {
        LinkedCovers x = new LinkedCovers(2, 0);
        Build.row(x, 0, 1);
        Build.row(x, 0);
        holds("column 1 has one row, column 0 two", x, 2, "0");
    }

    private static void leastOfAlike() {
        LinkedCovers x = new LinkedCovers(2, 0);
        x.times(0, 2);
        Build.row(x, 0, 1);
        Build.row(x, 1);
        Build.row(x, 0);
        // Column 0: row 0, row 2 below it; row 2, with row 0 barred. Column 1 would begin with rows 0 and 1.
        holds("both have two rows, so column 0", x, 4, "0 2");
    }

    private static void unfitRowsAreNotCounted() {
        LinkedCovers covered = new LinkedCovers(3, 0);
        Build.row(covered, 1, 2);
        Build.row(covered, 0);
        Build.row(covered, 0, 2);
        Build.row(covered, 1);
        // Under row 2 column 1 has row 3 alone; of its two rows, row 0 does not fit.
        holds("needed columns that are covered", covered, 5, "0 1", "2 3");
        LinkedCovers painted = new LinkedCovers(3, 1);
        painted.times(0, 2);
        painted.times(1, 2);
        Build.painted(painted, 1, 0, 2, 0);
        Build.painted(painted, 1, 0);
        Build.painted(painted, 0, 0, 1, 0, 2, 1);
        Build.painted(painted, 0, 0);
        Build.painted(painted, 0, 0);
        // Under row 2 column 1 has row 1 alone, as row 0 has another colour.
        holds("optional columns of another colour", painted, 11, "1 2 3", "1 2 4", "0 1 3 4");
    }

    private static void chosenRowsAreNotCounted() {
        LinkedCovers x = new LinkedCovers(3, 0);
        x.times(2, 2);
        Build.row(x, 1);
        Build.row(x, 1, 2);
        Build.row(x, 0, 2);
        // Under row 2 column 2 has row 1 alone, column 1 two rows.
        holds("column 2 is due once more", x, 3, "1 2");
    }

    private static void barredRowsAreNotCounted() {
        LinkedCovers x = new LinkedCovers(3, 1);
        x.times(0, 2);
        x.times(1, 2);
        Build.painted(x, 0, 0);
        Build.painted(x, 2, 2);
        Build.painted(x, 0, 0, 2, 0);
        Build.painted(x, 1, 0);
        Build.painted(x, 0, 0, 1, 0, 2, 1);
        // Under row 4 of column 1 row 3 is barred: column 1 has none, and that ends it at once.
        holds("a column whose last row is barred", x, 5, "0 3 4");
    }

    private static void timesLeftAreNotCounted() {
        LinkedCovers x = new LinkedCovers(2, 0);
        x.times(0, 2);
        Build.row(x, 0);
        Build.row(x, 0, 1);
        // Column 1 has one row, column 0 two; that column 0 needs both does not count.
        holds("rows are counted, not what is left to choose", x, 3, "0 1");
    }

    private static void rowsByNumbers() {
        LinkedCovers x = new LinkedCovers(1, 0);
        Build.row(x, 0);
        Build.row(x, 0);
        Build.row(x, 0);
        holds("rows by numbers", x, 4, "0", "1", "2");
        CHECKS.same("until two ways", x.ways(2), 2);
        CHECKS.same("come to by three nodes", x.nodes(), 3);
        CHECKS.same("the second", x.way(1, 0), 1);
    }

    private static void barredNoLonger() {
        LinkedCovers two = new LinkedCovers(1, 0);
        two.times(0, 2);
        Build.row(two, 0);
        Build.row(two, 0);
        // Row 1 alone comes to nothing, row 0 being barred.
        holds("no way twice", two, 4, "0 1");
        Build.row(two, 0);
        // Row 1 was barred under row 0, and is no more when that is gone through.
        holds("free again behind the column", two, 7, "0 1", "0 2", "1 2");
        LinkedCovers after = new LinkedCovers(1, 0);
        after.times(0, 2);
        Build.row(after, 0);
        Build.row(after, 0);
        after.ways(10);
        holds("free again for the next search", after, 4, "0 1");
        CHECKS.same("and behind one that stopped early", after.ways(1), 1);
        holds("again", after, 4, "0 1");
    }

    private static void fromRowsTaken() {
        LinkedCovers x = new LinkedCovers(3, 1);
        x.times(0, 2);
        Build.painted(x, 0, 0, 2, 1);
        Build.painted(x, 0, 0, 2, 2);
        Build.painted(x, 0, 0, 2, 1);
        Build.painted(x, 1, 0);
        Build.painted(x, 1, 0, 2, 2);
        x.take(2);
        // Rows 1 and 4 have another colour; row 0 is before row 2, but not barred.
        holds("from row 2", x, 3, "0 2 3");
        x.take(0);
        holds("from rows 2 and 0", x, 2, "0 2 3");
        x.take(3);
        holds("from a way", x, 1, "0 2 3");
        x.untake();
        x.untake();
        x.untake();
        holds("from none", x, 8, "0 2 3");
    }

    private static void nodesWithoutWays() {
        LinkedCovers x = new LinkedCovers(2, 0);
        holds("no rows: the first node alone", x, 1);
        Build.row(x, 0);
        holds("a column without rows is chosen, with no node", x, 1);
        Build.row(x, 0, 1);
        x.times(1, 3);
        holds("a column that cannot become full", x, 2);
    }
}
