/** Promise 3: rows are numbered from 0 on, 60 at most, none while rows are taken. */
public final class Promise03RowTest {
    public static void main(String[] args) {
        Checks checks = new Checks();
        LinkedCovers x = new LinkedCovers(2, 0);
        checks.same("row()", x.row(), 0);
        checks.same("it has no columns", x.tell(0, 0), 0);
        x.entry(0, 0);
        x.take(0);
        checks.same("row() while a row is taken", x.row(), -1);
        checks.noIndex("and there is no row 1", () -> x.tell(1, 0));
        x.untake();
        for (int i = 1; i < 60; i++) {
            checks.same("row()", x.row(), i);
        }
        checks.same("row() beyond 60", x.row(), -1);
        checks.same("row() beyond 60 again", x.row(), -1);
        checks.noIndex("there is no row 60", () -> x.tell(60, 0));
        checks.yes("the last row is number 59", x.entry(1, 0));
        checks.same("it has the column", x.tell(59, 1), 1);
        x.take(0);
        checks.same("row() beyond 60, and rows are taken", x.row(), -1);
        laidRowsCount(checks);
        checks.end();
    }

    private static void laidRowsCount(Checks checks) {
        LinkedCovers x = new LinkedCovers(24, 0);
        for (int i = 0; i < 35; i++) {
            x.row();
        }
        Build.cubes(x, 0, 0, 0);
        x.lay(24, 1, 1, 0, -1);
        checks.same("behind 35 rows and 24 laid ones", x.row(), 59);
        checks.same("and no more", x.row(), -1);
    }
}
