/** Promise 8: the row TAKEN last is so no more. */
public final class Promise08UntakeTest {
    public static void main(String[] args) {
        Checks checks = new Checks();
        LinkedCovers x = new LinkedCovers(3, 0);
        checks.same("none is taken", x.untake(), -1);
        for (int c = 0; c < 3; c++) {
            Build.row(x, c);
            Build.row(x, c);
        }
        checks.same("none is taken of six", x.untake(), -1);
        x.take(4);
        x.take(1);
        x.take(2);
        checks.same("open", x.open(1), 0);
        checks.same("the last", x.untake(), 2);
        checks.same("its column is open again", x.open(1), 2);
        checks.yes("another one", x.take(3));
        checks.same("that one", x.untake(), 3);
        checks.same("the second", x.untake(), 1);
        checks.same("still one is taken", x.row(), -1);
        checks.same("the first", x.untake(), 4);
        checks.same("none", x.untake(), -1);
        checks.same("none", x.untake(), -1);
        checks.same("rows can come again", x.row(), 6);
        full(checks);
        checks.end();
    }

    private static void full(Checks checks) {
        LinkedCovers x = new LinkedCovers(20, 0);
        for (int i = 0; i < 60; i++) {
            x.times(i / 3, 3);
            Build.row(x, i / 3);
        }
        for (int i = 0; i < 60; i++) {
            checks.yes("take " + i, x.take(i));
        }
        checks.same("sixty rows are one way", x.ways(10), 1);
        checks.same("its last row", x.way(0, 59), 59);
        checks.same("and no more", x.way(0, 60), -1);
        for (int i = 59; i >= 0; i--) {
            checks.same("untake " + i, x.untake(), i);
        }
        checks.same("the same way, found", x.ways(10), 1);
        // Of rows a, b, c of a column these come to nothing: a c, b, b c and c, what is left being barred.
        checks.same("by sixty-one nodes, and four of each column for nothing", x.nodes(), 61 + 20 * 4);
    }
}
