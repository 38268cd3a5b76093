/** Promise 2: TIMES of needed columns. */
public final class Promise02TimesTest {
    public static void main(String[] args) {
        Checks checks = new Checks();
        LinkedCovers x = new LinkedCovers(3, 1);
        for (int i = 0; i < 4; i++) {
            Build.row(x, 0);
        }
        Build.row(x, 1);
        checks.same("once: 4 ways", x.ways(100), 4);
        checks.yes("times(0, 2)", x.times(0, 2));
        checks.same("two of four rows", x.ways(100), 6);
        checks.yes("times(0, 3)", x.times(0, 3));
        checks.same("three of four rows", x.ways(100), 4);
        checks.no("times(0, 0)", x.times(0, 0));
        checks.no("times(0, 4)", x.times(0, 4));
        checks.no("times(0, -1)", x.times(0, -1));
        checks.no("times of an optional column", x.times(2, 1));
        checks.same("nothing changed", x.ways(100), 4);
        checks.noIndex("times(-1, 1)", () -> x.times(-1, 1));
        checks.noIndex("times(3, 1)", () -> x.times(3, 1));
        checks.noIndex("times(3, 9): no such column goes before", () -> x.times(3, 9));
        checks.noIndex("times(MAX, 1)", () -> x.times(Integer.MAX_VALUE, 1));
        x.take(0);
        checks.no("times while a row is taken", x.times(0, 1));
        checks.noIndex("times(3, 1) while a row is taken", () -> x.times(3, 1));
        checks.same("still three times", x.ways(100), 3);
        x.untake();
        checks.yes("times(0, 1)", x.times(0, 1));
        checks.yes("times(0, 1) once more", x.times(0, 1));
        checks.same("once again", x.ways(100), 4);
        checks.end();
    }
}
