/** Promise 14: the columns to which two columns go are exchanged. */
public final class Promise14ExchangeTest {
    public static void main(String[] args) {
        Checks checks = new Checks();
        LinkedCovers x = new LinkedCovers(3, 0);
        checks.noIndex("no turn yet", () -> x.exchange(0, 0, 1));
        x.turn();
        checks.noIndex("turn -1", () -> x.exchange(-1, 0, 1));
        checks.noIndex("turn 1", () -> x.exchange(1, 0, 1));
        checks.noIndex("column -1", () -> x.exchange(0, -1, 1));
        checks.noIndex("column 3", () -> x.exchange(0, 3, 1));
        checks.noIndex("second column -1", () -> x.exchange(0, 1, -1));
        checks.noIndex("second column 3", () -> x.exchange(0, 1, 3));
        checks.noIndex("one column, but none such", () -> x.exchange(0, 3, 3));
        checks.no("one column", x.exchange(0, 2, 2));
        checks.yes("two", x.exchange(0, 0, 1));
        checks.yes("two, the other way", x.exchange(0, 1, 0));
        // A cycle 0 -> 1 -> 2 -> 0 takes these three rows around; any other turn of three would not.
        x.exchange(0, 0, 1);
        x.exchange(0, 1, 2);
        Build.row(x, 0);
        Build.row(x, 1);
        Build.row(x, 2);
        checks.same("a cycle", x.classes(), 1);
        targets(checks);
        edges(checks);
        checks.end();
    }

    private static void edges(Checks checks) {
        LinkedCovers x = new LinkedCovers(24, 24);
        for (int t = 0; t < 8; t++) {
            x.turn();
        }
        Build.painted(x, 0, 1);
        Build.painted(x, 23, 1);
        Build.painted(x, 11, 1);
        checks.yes("first and last column of the last turn", x.exchange(7, 0, 23));
        checks.same("a row for each", x.classes(), 1);
        checks.no("one column does nothing", x.exchange(7, 11, 11));
        checks.no("nor column 0 with itself", x.exchange(7, 0, 0));
        checks.same("as before", x.classes(), 1);
        checks.noIndex("column 24", () -> x.exchange(7, 0, 24));
        checks.noIndex("column 24 first", () -> x.exchange(7, 24, 0));
        checks.noIndex("turn 8", () -> x.exchange(8, 0, 1));
        checks.noIndex("turn 8, one column", () -> x.exchange(8, 1, 1));
        checks.noIndex("turn MIN", () -> x.exchange(Integer.MIN_VALUE, 0, 1));
        checks.noIndex("turn MAX", () -> x.exchange(Integer.MAX_VALUE, 0, 1));
        checks.noIndex("columns MAX and MIN", () -> x.exchange(0, Integer.MAX_VALUE, Integer.MIN_VALUE));
        checks.same("these did nothing", x.classes(), 1);
        checks.yes("another turn", x.exchange(6, 11, 12));
        checks.same("has no row to go to", x.classes(), -1);
        checks.yes("back", x.exchange(6, 12, 11));
        checks.same("as before", x.classes(), 1);
    }

    /** Which column goes where is seen from a row that is to be there. */
    private static void targets(Checks checks) {
        LinkedCovers x = new LinkedCovers(4, 4);
        Build.painted(x, 0, 1);
        Build.painted(x, 1, 1, 2, 2);
        Build.painted(x, 2, 1, 0, 2);
        Build.painted(x, 0, 1, 1, 2);
        x.turn();
        checks.same("each stays", x.classes(), 1);
        x.exchange(0, 0, 1);
        checks.same("row 0 goes nowhere", x.classes(), -1);
        LinkedCovers y = new LinkedCovers(3, 3);
        Build.painted(y, 0, 1, 1, 2);
        Build.painted(y, 1, 1, 2, 2);
        Build.painted(y, 2, 1, 0, 2);
        y.turn();
        y.exchange(0, 0, 1);
        checks.same("0 and 1 alone", y.classes(), -1);
        y.exchange(0, 1, 2);
        checks.same("0 to 1, 1 to 2, 2 to 0", y.classes(), 1);
        // Now 0 goes to 2 and 2 to 1: targets are exchanged, not columns renamed.
        y.exchange(0, 0, 1);
        checks.same("1 and 2 back", y.classes(), -1);
    }
}
