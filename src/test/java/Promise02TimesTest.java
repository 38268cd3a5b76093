/** Promise 2: TIMES of needed columns. */
public final class Promise02TimesTest {
    public static void main(String[] args) {
        Checks checks = new Checks();
        LinkedCovers x = new LinkedCovers(3, 1);
        for (int i = 0; i < 4; i++) {
            Build.row(x, 0);
        }
        Build.row(x, 1);
        checks.same("once: 4 ways", x.ways(100), 4);
        checks.yes("times(0, 2)", x.times(0, 2));
        checks.same("two of four rows", x.ways(100), 6);
        checks.yes("times(0, 3)", x.times(0, 3));
        checks.same("three of four rows", x.ways(100), 4);
        checks.no("times(0, 0)", x.times(0, 0));
        checks.no("times(0, 4)", x.times(0, 4));
        checks.no("times(0, -1)", x.times(0, -1));
        checks.no("times of an optional column", x.times(2, 1));
        checks.same("nothing changed", x.ways(100), 4);
        checks.noIndex("times(-1, 1)", () -> x.times(-1, 1));
        checks.noIndex("times(3, 1)", () -> x.times(3, 1));
        checks.noIndex("times(3, 9): no such column goes before", () -> x.times(3, 9));
        checks.noIndex("times(MAX, 1)", () -> x.times(Integer.MAX_VALUE, 1));
        x.take(0);
        checks.no("times while a row is taken", x.times(0, 1));
        checks.noIndex("times(3, 1) while a row is taken", () -> x.times(3, 1));
        checks.same("still three times", x.ways(100), 3);
        x.untake();
        checks.yes("times(0, 1)", x.times(0, 1));
        checks.yes("times(0, 1) once more", x.times(0, 1));
        checks.same("once again", x.ways(100), 4);
        checks.no("times(0, MIN)", x.times(0, Integer.MIN_VALUE));
        checks.no("times(0, MAX)", x.times(0, Integer.MAX_VALUE));
        checks.noIndex("times(MIN, 1)", () -> x.times(Integer.MIN_VALUE, 1));
        edges(checks);
        checks.end();
    }

    /** The last needed column and the first optional one; what is refused does nothing, as turns show. */
    private static void edges(Checks checks) {
        LinkedCovers x = new LinkedCovers(4, 2);
        Build.row(x, 0);
        Build.row(x, 1);
        Build.turn(x, 0, 1, 2, 3);
        checks.same("all are needed once", x.classes(), 1);
        for (int n = 1; n <= 3; n++) {
            checks.no("the first optional column, " + n, x.times(2, n));
            checks.no("the last optional column, " + n, x.times(3, n));
        }
        checks.no("times(1, 4)", x.times(1, 4));
        checks.no("times(1, 0)", x.times(1, 0));
        checks.same("nothing was done", x.classes(), 1);
        x.take(1);
        for (int n = 1; n <= 3; n++) {
            checks.no("rows are taken, " + n, x.times(1, n));
        }
        checks.same("nor then", x.classes(), 1);
        x.untake();
        checks.yes("the last needed column", x.times(1, 3));
        checks.same("now they are not alike", x.classes(), -1);
        LinkedCovers one = new LinkedCovers(1, 1);
        checks.no("no column is needed", one.times(0, 1));
        checks.noIndex("nor is there a second", () -> one.times(1, 1));
    }
}
