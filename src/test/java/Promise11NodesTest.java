/** Promise 11: the nodes of the latest ways(). */
public final class Promise11NodesTest {
    public static void main(String[] args) {
        Checks checks = new Checks();
        LinkedCovers x = new LinkedCovers(3, 0);
        checks.same("before", x.nodes(), 0);
        x.ways(0);
        checks.same("ways(0) is none", x.nodes(), 0);
        x.ways(1);
        checks.same("the first node, no row", x.nodes(), 1);
        Build.row(x, 0);
        Build.row(x, 0);
        Build.row(x, 0);
        Build.row(x, 1, 2);
        Build.row(x, 1);
        checks.same("rows change nothing", x.nodes(), 1);
        checks.same("ways", x.ways(10), 3);
        checks.same("column 2 first, as it has one row; then column 0", x.nodes(), 5);
        x.ways(2);
        checks.same("until two ways", x.nodes(), 4);
        x.ways(100001);
        checks.same("-1 leaves it", x.nodes(), 4);
        x.classes();
        checks.same("classes() leaves it", x.nodes(), 4);
        x.take(3);
        checks.same("take() leaves it", x.nodes(), 4);
        x.ways(10);
        checks.same("from row 3", x.nodes(), 4);
        leastColumn(checks);
        deadEnds(checks);
        afterTooMany(checks);
        checks.end();
    }

    private static void afterTooMany(Checks checks) {
        LinkedCovers x = Build.threeOfEach();
        x.ways(-5);
        checks.same("0 before, though ways(-5) was -1", x.nodes(), 0);
        x.classes();
        checks.same("nor is classes() a ways()", x.nodes(), 0);
        checks.same("too many", x.ways(100000), -2);
        checks.same("50,000", x.nodes(), 50000);
        x.ways(0);
        checks.same("-1 leaves that, too", x.nodes(), 50000);
        checks.same("one way", x.ways(1), 1);
        checks.same("counted anew, the first one and one for each row", x.nodes(), 21);
    }

    /** Columns 0 and 1 have two rows each; the least is gone through, and that shows in the nodes. */
    private static void leastColumn(Checks checks) {
        LinkedCovers x = new LinkedCovers(3, 0);
        Build.row(x, 0, 2);
        Build.row(x, 0);
        Build.row(x, 1);
        Build.row(x, 1);
        Build.row(x, 2);
        checks.same("ways", x.ways(10), 4);
        checks.same("column 0, then column 2 where it is left", x.nodes(), 1 + 3 + 1 + 1 + 2);
        checks.same("the first way has row 0", x.way(0, 0), 0);
    }

    private static void deadEnds(Checks checks) {
        LinkedCovers x = new LinkedCovers(3, 0);
        Build.row(x, 0, 1);
        Build.row(x, 1, 2);
        Build.row(x, 0, 2);
        checks.same("no way", x.ways(10), 0);
        checks.same("two nodes that go nowhere", x.nodes(), 3);
        LinkedCovers twice = new LinkedCovers(1, 0);
        twice.times(0, 2);
        Build.row(twice, 0);
        Build.row(twice, 0);
        Build.row(twice, 0);
        checks.same("pairs of three", twice.ways(10), 3);
        checks.same("1, then 1 + 2, 1 + 1, 1", twice.nodes(), 7);
    }
}
