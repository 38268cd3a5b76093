/** Promise 16: the columns of a row. */
public final class Promise16TellTest {
    public static void main(String[] args) {
        Checks checks = new Checks();
        LinkedCovers x = new LinkedCovers(24, 2);
        checks.noIndex("no row yet", () -> x.tell(0, 0));
        Build.row(x, 7, 0, 23, 22);
        x.row();
        checks.same("how many", x.tell(0, 0), 4);
        checks.same("the least", x.tell(0, 1), 0);
        checks.same("the second", x.tell(0, 2), 7);
        checks.same("the third", x.tell(0, 3), 22);
        checks.same("the last", x.tell(0, 4), 23);
        checks.same("behind it", x.tell(0, 5), -1);
        checks.same("-1", x.tell(0, -1), -1);
        checks.same("MIN", x.tell(0, Integer.MIN_VALUE), -1);
        checks.same("MAX", x.tell(0, Integer.MAX_VALUE), -1);
        checks.same("a row without columns", x.tell(1, 0), 0);
        checks.same("has no first", x.tell(1, 1), -1);
        checks.noIndex("tell(-1, 0)", () -> x.tell(-1, 0));
        checks.noIndex("tell(2, 0)", () -> x.tell(2, 0));
        checks.noIndex("tell(2, 99)", () -> x.tell(2, 99));
        checks.noIndex("tell(MAX, 0)", () -> x.tell(Integer.MAX_VALUE, 0));
        x.take(0);
        checks.same("while it is taken", x.tell(0, 2), 7);
        checks.end();
    }
}
