import java.util.HashSet;
import java.util.Set;

/** Terms: which rows fit together, and what a WAY is. */
public final class TermsTest {
    private static final Checks CHECKS = new Checks();

    public static void main(String[] args) {
        neededColumns();
        tooFewAndTooMany();
        optionalColumns();
        threeRowsOfOneColour();
        rowsWithoutNeededColumns();
        nothingNeeded();
        eachSetOnce();
        CHECKS.end();
    }

    /** The last columns are optional: those before them have to be covered, these do not. */
    private static void neededColumns() {
        LinkedCovers x = new LinkedCovers(5, 2);
        Build.row(x, 0, 1);
        CHECKS.same("column 2 is not covered", x.ways(10), 0);
        Build.row(x, 2);
        CHECKS.same("columns 3 and 4 need not be", x.ways(10), 1);
        LinkedCovers all = new LinkedCovers(5, 0);
        Build.row(all, 0, 1, 2, 3);
        CHECKS.same("with none optional the last one has to be", all.ways(10), 0);
        Build.row(all, 4);
        CHECKS.same("and is", all.ways(10), 1);
    }

    private static LinkedCovers alikeRows(int rows, int times) {
        LinkedCovers x = new LinkedCovers(1, 0);
        for (int i = 0; i < rows; i++) {
            Build.row(x, 0);
        }
        if (times > 1) {
            x.times(0, times);
        }
        return x;
    }

    private static void tooFewAndTooMany() {
        int[][] due = {{0, 1, 2, 3, 4}, {0, 0, 1, 3, 6}, {0, 0, 0, 1, 4}};
        for (int times = 1; times <= 3; times++) {
            for (int rows = 0; rows <= 4; rows++) {
                LinkedCovers x = alikeRows(rows, times);
                CHECKS.same(times + " times of " + rows + " rows", x.ways(10), due[times - 1][rows]);
            }
            LinkedCovers x = alikeRows(4, times);
            for (int i = 0; i < times; i++) {
                CHECKS.yes("row " + i + " of " + times, x.take(i));
            }
            CHECKS.no("one more than " + times, x.take(times));
        }
    }

    private static boolean fit(int first, int second) {
        LinkedCovers x = new LinkedCovers(3, 1);
        Build.painted(x, 0, 0, 2, first);
        Build.painted(x, 1, 0, 2, second);
        x.take(0);
        boolean taken = x.take(1);
        x.untake();
        CHECKS.same("the search, of colours " + first + " and " + second, x.ways(5), taken ? 1 : 0);
        return taken;
    }

    private static void optionalColumns() {
        for (int first = 0; first <= 7; first++) {
            LinkedCovers alone = new LinkedCovers(2, 1);
            Build.painted(alone, 0, 0, 1, first);
            CHECKS.same("in one row, colour " + first, alone.ways(5), 1);
            for (int second = 0; second <= 7; second++) {
                boolean due = first == second && first != 0;
                CHECKS.same("colours " + first + " and " + second, fit(first, second) ? 1 : 0, due ? 1 : 0);
            }
        }
    }

    private static void threeRowsOfOneColour() {
        LinkedCovers x = new LinkedCovers(5, 1);
        for (int c = 0; c < 3; c++) {
            Build.painted(x, c, 0, 4, 7);
        }
        Build.painted(x, 3, 0, 4, 6);
        x.take(0);
        x.take(1);
        CHECKS.yes("a third of one colour", x.take(2));
        CHECKS.no("a fourth of another", x.take(3));
        CHECKS.same("so column 3 has none", x.open(3), 0);
        Build.row(x, 3);
        CHECKS.same("and no row comes while these are taken", x.ways(5), 0);
    }

    private static void rowsWithoutNeededColumns() {
        LinkedCovers x = new LinkedCovers(3, 2);
        Build.painted(x, 1, 1);
        x.row();
        Build.painted(x, 0, 0, 1, 1);
        Build.painted(x, 1, 1, 2, 3);
        CHECKS.same("rows without needed columns are of no way", x.ways(10), 1);
        CHECKS.same("its row", x.way(0, 0), 2);
        CHECKS.same("and no other", x.way(0, 1), -1);
        CHECKS.same("nor are they nodes", x.nodes(), 2);
    }

    private static void nothingNeeded() {
        LinkedCovers x = new LinkedCovers(2, 2);
        Build.painted(x, 0, 1);
        CHECKS.same("no needed column: no rows are the way", x.ways(10), 1);
        CHECKS.same("it has none", x.way(0, 0), -1);
        CHECKS.no("and none can be taken", x.take(0));
        CHECKS.same("nor is one open", x.open(0), 0);
    }

    private static void eachSetOnce() {
        LinkedCovers x = alikeRows(5, 3);
        CHECKS.same("three of five", x.ways(100), 10);
        Set<String> ways = new HashSet<>();
        for (int k = 0; k < 10; k++) {
            CHECKS.yes("way " + k + " comes once", ways.add(Build.way(x, k)));
        }
    }
}
