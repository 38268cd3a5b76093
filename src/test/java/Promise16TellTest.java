/** Promise 16: the columns of a row. */
public final class Promise16TellTest {
    public static void main(String[] args) {
        Checks checks = new Checks();
        LinkedCovers x = new LinkedCovers(24, 2);
        checks.noIndex("no row yet", () -> x.tell(0, 0));
        Build.row(x, 7, 0, 23, 22);
        x.row();
        checks.same("how many", x.tell(0, 0), 4);
        checks.same("the least", x.tell(0, 1), 0);
        checks.same("the second", x.tell(0, 2), 7);
        checks.same("the third", x.tell(0, 3), 22);
        checks.same("the last", x.tell(0, 4), 23);
        checks.same("behind it", x.tell(0, 5), -1);
        checks.same("-1", x.tell(0, -1), -1);
        checks.same("MIN", x.tell(0, Integer.MIN_VALUE), -1);
        checks.same("MAX", x.tell(0, Integer.MAX_VALUE), -1);
        checks.same("a row without columns", x.tell(1, 0), 0);
        checks.same("has no first", x.tell(1, 1), -1);
        checks.noIndex("tell(-1, 0)", () -> x.tell(-1, 0));
        checks.noIndex("tell(2, 0)", () -> x.tell(2, 0));
        checks.noIndex("tell(2, 99)", () -> x.tell(2, 99));
        checks.noIndex("tell(MAX, 0)", () -> x.tell(Integer.MAX_VALUE, 0));
        x.take(0);
        checks.same("while it is taken", x.tell(0, 2), 7);
        checks.noIndex("tell(MIN, 0)", () -> x.tell(Integer.MIN_VALUE, 0));
        full(checks);
        checks.end();
    }

    /** Eight columns, in the last of sixty rows. */
    private static void full(Checks checks) {
        LinkedCovers x = new LinkedCovers(24, 0);
        for (int i = 0; i < 59; i++) {
            x.row();
        }
        Build.row(x, 23, 20, 17, 14, 11, 8, 5, 2);
        checks.same("eight", x.tell(59, 0), 8);
        for (int i = 1; i <= 8; i++) {
            checks.same("column " + i, x.tell(59, i), 3 * i - 1);
        }
        checks.same("no ninth", x.tell(59, 9), -1);
        checks.same("the row before has none", x.tell(58, 1), -1);
        checks.noIndex("there is no row 60", () -> x.tell(60, 0));
    }
}
