/** Promise 7: rows are TAKEN. */
public final class Promise07TakeTest {
    public static void main(String[] args) {
        Checks checks = new Checks();
        LinkedCovers x = new LinkedCovers(5, 2);
        checks.noIndex("take(0) without rows", () -> x.take(0));
        int first = Build.painted(x, 0, 0, 3, 1);
        int again = Build.painted(x, 0, 0, 3, 1);
        int sameColour = Build.painted(x, 1, 0, 3, 1);
        int otherColour = Build.painted(x, 1, 0, 3, 2);
        int noColour = Build.painted(x, 1, 0, 3, 0);
        int optionalOnly = Build.painted(x, 3, 1);
        int empty = x.row();
        int aside = Build.painted(x, 2, 0, 4, 0);
        int asideToo = Build.painted(x, 1, 0, 4, 0);
        checks.noIndex("take(-1)", () -> x.take(-1));
        checks.noIndex("take behind the last", () -> x.take(9));
        checks.no("a row of optional columns alone", x.take(optionalOnly));
        checks.no("an empty row", x.take(empty));
        checks.yes("take", x.take(first));
        checks.no("taken already", x.take(first));
        checks.no("column 0 is covered", x.take(again));
        checks.no("another colour", x.take(otherColour));
        checks.no("colour 0", x.take(noColour));
        checks.yes("an optional column of its own", x.take(aside));
        checks.no("colour 0 twice", x.take(asideToo));
        checks.yes("the same colour", x.take(sameColour));
        checks.noIndex("take behind the last, rows taken", () -> x.take(9));
        checks.same("these are a way", x.ways(10), 1);
        checks.same("of three rows", x.way(0, 2), aside);
        twice(checks);
        anyOrder(checks);
        checks.end();
    }

    /** Rows fit together or not, whichever is taken first. */
    private static void anyOrder(Checks checks) {
        LinkedCovers x = new LinkedCovers(4, 1);
        Build.painted(x, 0, 0, 3, 1);
        Build.painted(x, 1, 0, 3, 2);
        Build.painted(x, 2, 0, 3, 1);
        Build.painted(x, 0, 0, 1, 0);
        int[][] pairs = {{0, 1, 0}, {0, 2, 1}, {0, 3, 0}, {1, 2, 0}, {1, 3, 0}, {2, 3, 1}};
        for (int[] p : pairs) {
            for (int side = 0; side < 2; side++) {
                x.take(p[side]);
                checks.same("row " + p[1 - side] + " behind row " + p[side], x.take(p[1 - side]) ? 1 : 0, p[2]);
                while (x.untake() != -1) {
                    checks.same("still a row of its own", x.tell(p[side], 0) > 0 ? 1 : 0, 1);
                }
            }
        }
        checks.noIndex("take(MIN)", () -> x.take(Integer.MIN_VALUE));
        checks.noIndex("take(MAX)", () -> x.take(Integer.MAX_VALUE));
    }

    private static void twice(Checks checks) {
        LinkedCovers x = new LinkedCovers(2, 0);
        x.times(0, 2);
        Build.row(x, 0);
        Build.row(x, 0, 1);
        Build.row(x, 0);
        Build.row(x, 1);
        checks.yes("column 0 once", x.take(2));
        checks.no("taken already, though column 0 has room", x.take(2));
        checks.yes("column 0 twice", x.take(1));
        checks.no("column 0 thrice", x.take(0));
        checks.no("column 1 twice", x.take(3));
    }
}
