/** Promise 1: how many columns, and optional ones, a new object has; no rows. */
public final class Promise01NewObjectTest {
    private static final Checks CHECKS = new Checks();

    private static void counts(int columns, int optional, int dueColumns, int dueNeeded) {
        String name = "new (" + columns + ", " + optional + ")";
        LinkedCovers x = new LinkedCovers(columns, optional);
        CHECKS.noIndex(name + " open(-1)", () -> x.open(-1));
        CHECKS.same(name + " open of the last column", x.open(dueColumns - 1), 0);
        CHECKS.noIndex(name + " open behind the last column", () -> x.open(dueColumns));
        for (int c = 0; c < dueColumns; c++) {
            CHECKS.same(name + " column " + c + " is needed", x.times(c, 1) ? 1 : 0, c < dueNeeded ? 1 : 0);
        }
    }

    public static void main(String[] args) {
        counts(7, 2, 7, 5);
        counts(7, 0, 7, 7);
        counts(7, 7, 7, 0);
        counts(1, 0, 1, 1);
        counts(24, 3, 24, 21);
        counts(0, 0, 1, 1);
        counts(Integer.MIN_VALUE, 5, 1, 0);
        counts(25, 4, 24, 20);
        counts(24, -1, 24, 24);
        counts(30, -6, 24, 24);
        counts(24, 0, 24, 24);
        counts(24, 24, 24, 0);
        counts(24, 25, 24, 0);
        counts(25, 25, 24, 0);
        counts(1, 1, 1, 0);
        counts(1, 2, 1, 0);
        counts(0, 1, 1, 0);
        counts(-1, -1, 1, 1);
        counts(Integer.MAX_VALUE, 24, 24, 0);
        counts(5, -1, 5, 5);
        counts(5, Integer.MIN_VALUE, 5, 5);
        counts(5, 6, 5, 0);
        counts(5, Integer.MAX_VALUE, 5, 0);
        LinkedCovers x = new LinkedCovers(3, 1);
        CHECKS.noIndex("no row yet: tell(0, 0)", () -> x.tell(0, 0));
        CHECKS.noIndex("no row yet: take(0)", () -> x.take(0));
        CHECKS.same("nothing taken", x.untake(), -1);
        CHECKS.noIndex("no turn yet", () -> x.exchange(0, 0, 1));
        CHECKS.same("no row covers column 0", x.ways(5), 0);
        LinkedCovers less = new LinkedCovers(5, -1);
        Build.row(less, 0, 1, 2, 3, 4);
        CHECKS.same("no more than five columns have to be covered", less.ways(5), 1);
        LinkedCovers free = new LinkedCovers(3, 3);
        CHECKS.same("nothing is needed: the empty way", free.ways(5), 1);
        CHECKS.same("its node", free.nodes(), 1);
        CHECKS.same("it has no rows", free.way(0, 0), -1);
        CHECKS.same("its class", free.classes(), 1);
        CHECKS.end();
    }
}
