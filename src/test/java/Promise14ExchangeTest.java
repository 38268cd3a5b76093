/** Promise 14: the columns to which two columns go are exchanged. */
public final class Promise14ExchangeTest {
    public static void main(String[] args) {
        Checks checks = new Checks();
        LinkedCovers x = new LinkedCovers(3, 0);
        checks.noIndex("no turn yet", () -> x.exchange(0, 0, 1));
        x.turn();
        checks.noIndex("turn -1", () -> x.exchange(-1, 0, 1));
        checks.noIndex("turn 1", () -> x.exchange(1, 0, 1));
        checks.noIndex("column -1", () -> x.exchange(0, -1, 1));
        checks.noIndex("column 3", () -> x.exchange(0, 3, 1));
        checks.noIndex("second column -1", () -> x.exchange(0, 1, -1));
        checks.noIndex("second column 3", () -> x.exchange(0, 1, 3));
        checks.noIndex("one column, but none such", () -> x.exchange(0, 3, 3));
        checks.no("one column", x.exchange(0, 2, 2));
        checks.yes("two", x.exchange(0, 0, 1));
        checks.yes("two, the other way", x.exchange(0, 1, 0));
        // A cycle 0 -> 1 -> 2 -> 0 takes these three rows around; any other turn of three would not.
        x.exchange(0, 0, 1);
        x.exchange(0, 1, 2);
        Build.row(x, 0);
        Build.row(x, 1);
        Build.row(x, 2);
        checks.same("a cycle", x.classes(), 1);
        targets(checks);
        checks.end();
    }

    /** Which column goes where is seen from a row that is to be there. */
    private static void targets(Checks checks) {
        LinkedCovers x = new LinkedCovers(4, 4);
        Build.painted(x, 0, 1);
        Build.painted(x, 1, 1, 2, 2);
        Build.painted(x, 2, 1, 0, 2);
        Build.painted(x, 0, 1, 1, 2);
        x.turn();
        checks.same("each stays", x.classes(), 1);
        x.exchange(0, 0, 1);
        checks.same("row 0 goes nowhere", x.classes(), -1);
        LinkedCovers y = new LinkedCovers(3, 3);
        Build.painted(y, 0, 1, 1, 2);
        Build.painted(y, 1, 1, 2, 2);
        Build.painted(y, 2, 1, 0, 2);
        y.turn();
        y.exchange(0, 0, 1);
        checks.same("0 and 1 alone", y.classes(), -1);
        y.exchange(0, 1, 2);
        checks.same("0 to 1, 1 to 2, 2 to 0", y.classes(), 1);
        // Now 0 goes to 2 and 2 to 1: targets are exchanged, not columns renamed.
        y.exchange(0, 0, 1);
        checks.same("1 and 2 back", y.classes(), -1);
    }
}
