/** Promise 13: TURNS by which each column stays, eight at most. */
public final class Promise13TurnTest {
    public static void main(String[] args) {
        Checks checks = new Checks();
        LinkedCovers x = new LinkedCovers(3, 0);
        Build.row(x, 0);
        Build.row(x, 0);
        Build.row(x, 1);
        Build.row(x, 2);
        x.take(0);
        for (int i = 0; i < 8; i++) {
            checks.same("turn()", x.turn(), i);
        }
        checks.same("a ninth", x.turn(), -1);
        checks.same("a ninth", x.turn(), -1);
        checks.noIndex("there is no turn 8", () -> x.exchange(8, 0, 1));
        checks.yes("there is turn 7", x.exchange(7, 0, 1));
        LinkedCovers y = new LinkedCovers(3, 1);
        Build.row(y, 0, 1);
        Build.painted(y, 0, 0, 2, 3);
        Build.row(y, 1);
        checks.same("without turns", y.classes(), 2);
        y.turn();
        y.turn();
        checks.same("each column stays, so each way does", y.classes(), 2);
        checks.end();
    }
}
