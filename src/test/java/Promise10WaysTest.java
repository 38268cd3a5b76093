/** Promise 10: THE SEARCH, until so many ways are found, or all. */
public final class Promise10WaysTest {
    private static final Checks CHECKS = new Checks();

    public static void main(String[] args) {
        ordinary();
        most();
        oneColumn();
        limit();
        lastNode();
        barred();
        CHECKS.end();
    }

    private static void ordinary() {
        LinkedCovers x = new LinkedCovers(3, 0);
        CHECKS.same("no rows", x.ways(1), 0);
        Build.row(x, 0, 1);
        Build.row(x, 2);
        Build.row(x, 0);
        Build.row(x, 1, 2);
        Build.row(x, 1);
        CHECKS.same("ways", x.ways(100), 3);
        x.take(2);
        CHECKS.same("with row 2", x.ways(100), 2);
        x.take(3);
        CHECKS.same("all is covered by those taken", x.ways(100), 1);
        CHECKS.same("that is one node", x.nodes(), 1);
        x.untake();
        x.untake();
        CHECKS.same("from no rows again", x.ways(100), 3);
        LinkedCovers gone = new LinkedCovers(2, 0);
        Build.row(gone, 0, 1);
        Build.row(gone, 0);
        gone.take(1);
        CHECKS.same("no way goes on from there", gone.ways(10), 0);
    }

    private static void most() {
        LinkedCovers x = new LinkedCovers(2, 0);
        for (int i = 0; i < 8; i++) {
            Build.row(x, i % 2);
        }
        CHECKS.same("ways(0)", x.ways(0), -1);
        CHECKS.same("ways(-1)", x.ways(-1), -1);
        CHECKS.same("ways(MIN)", x.ways(Integer.MIN_VALUE), -1);
        CHECKS.same("ways(100001)", x.ways(100001), -1);
        CHECKS.same("ways(MAX)", x.ways(Integer.MAX_VALUE), -1);
        CHECKS.same("ways(1)", x.ways(1), 1);
        CHECKS.same("nodes then", x.nodes(), 3);
        CHECKS.same("ways(15)", x.ways(15), 15);
        CHECKS.same("ways(16)", x.ways(16), 16);
        CHECKS.same("ways(17)", x.ways(17), 16);
        CHECKS.same("ways(100000)", x.ways(100000), 16);
        CHECKS.same("nodes of all", x.nodes(), 21);
    }

    /** All sixty rows in one column. */
    private static void oneColumn() {
        LinkedCovers x = new LinkedCovers(1, 0);
        for (int i = 0; i < 60; i++) {
            Build.row(x, 0);
        }
        CHECKS.same("a way for each row", x.ways(100), 60);
        CHECKS.same("a node for each, and the first", x.nodes(), 61);
        CHECKS.same("the last", x.way(59, 0), 59);
        CHECKS.same("open", x.open(0), 60);
        x.times(0, 2);
        CHECKS.same("a way for each two", x.ways(100000), 60 * 59 / 2);
        CHECKS.same("their nodes", x.nodes(), 1 + 60 + 60 * 59 / 2);
    }

    /** Of a tree of threes 20 deep, the nodes up to a way are counted out from its number. */
    private static int nodesUpTo(int ways) {
        int nodes = ways;
        int above = ways;
        for (int level = 0; level < 20; level++) {
            above = (above + 2) / 3;
            nodes += above;
        }
        return nodes;
    }

    private static void limit() {
        LinkedCovers x = Build.threeOfEach();
        CHECKS.same("too many nodes", x.ways(100000), -2);
        CHECKS.same("50,000 nodes", x.nodes(), 50000);
        CHECKS.same("ways found before count", x.way(99, 19), 57);
        int last = 0;
        while (nodesUpTo(last + 1) < 50000) {
            last++;
        }
        CHECKS.same("as many as 49,999 nodes bring", x.ways(last), last);
        CHECKS.same("their nodes", x.nodes(), nodesUpTo(last));
        CHECKS.same("one more", x.ways(last + 1), -2);
        CHECKS.same("50,000 nodes", x.nodes(), 50000);
        CHECKS.same("-1 goes before", x.ways(0), -1);
        x.take(0);
        CHECKS.same("one column less", x.ways(10), 10);
    }

    /** Searches of 49,999, of 50,000 and of 50,001 nodes in all; the last node is a way in each. */
    private static void lastNode() {
        LinkedCovers under = Build.nodesByChain(0);
        CHECKS.same("49,999 nodes", under.ways(100000), Build.CHAIN_WAYS);
        CHECKS.same("all of them", under.nodes(), 49999);
        CHECKS.same("as many as there are", under.ways(Build.CHAIN_WAYS), Build.CHAIN_WAYS);
        LinkedCovers just = Build.nodesByChain(1);
        CHECKS.same("50,000 nodes", just.ways(100000), -2);
        CHECKS.same("are counted", just.nodes(), 50000);
        CHECKS.same("as many as there are", just.ways(Build.CHAIN_WAYS), -2);
        CHECKS.same("all but the last", just.ways(Build.CHAIN_WAYS - 1), Build.CHAIN_WAYS - 1);
        CHECKS.same("by all but the last node", just.nodes(), 49999);
        LinkedCovers over = Build.nodesByChain(2);
        CHECKS.same("50,001 nodes", over.ways(100000), -2);
        CHECKS.same("but no more than 50,000 are come to", over.nodes(), 50000);
        over.take(0);
        CHECKS.same("a row taken is no node", over.ways(100000), -2);
        CHECKS.same("50,000 nodes", over.nodes(), 50000);
        over.take(1);
        CHECKS.same("two rows taken", over.ways(100000), Build.CHAIN_WAYS);
        CHECKS.same("49,999 nodes", over.nodes(), 49999);
    }

    /** Columns that are covered twice or thrice: each set of rows is found once. */
    private static void barred() {
        LinkedCovers x = new LinkedCovers(2, 0);
        x.times(0, 3);
        x.times(1, 2);
        for (int i = 0; i < 6; i++) {
            Build.row(x, 0);
        }
        for (int i = 0; i < 4; i++) {
            Build.row(x, 1);
        }
        Build.row(x, 0, 1);
        CHECKS.same("20 * 6 without the last row, 15 * 4 with it", x.ways(1000), 180);
    }
}
