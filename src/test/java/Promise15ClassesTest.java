/** Promise 15: classes of ways under the turns. */
public final class Promise15ClassesTest {
    private static final Checks CHECKS = new Checks();

    public static void main(String[] args) {
        squares();
        severalTurns();
        refusals();
        colours();
        neededAlike();
        limits();
        leavesTheRest();
        cycles();
        columnZero();
        full();
        CHECKS.end();
    }

    private static LinkedCovers dominoes() {
        LinkedCovers x = new LinkedCovers(16, 0);
        Build.cubes(x, 0, 0, 0, 1, 0, 0);
        x.lay(4, 4, 1, 1, -1);
        return x;
    }

    /** A quarter turn of a board of 4 by 4 as cycles, each out of three exchanges. */
    private static int quarter(LinkedCovers x) {
        int turn = x.turn();
        int[][] cycles = {{0, 3, 15, 12}, {1, 7, 14, 8}, {2, 11, 13, 4}, {5, 6, 10, 9}};
        for (int[] c : cycles) {
            x.exchange(turn, c[0], c[1]);
            x.exchange(turn, c[1], c[2]);
            x.exchange(turn, c[2], c[3]);
        }
        return turn;
    }

    private static void squares() {
        LinkedCovers x = dominoes();
        CHECKS.same("no turns", x.classes(), 36);
        quarter(x);
        CHECKS.same("quarter turns", x.classes(), 12);
        Build.turn(x, 0, 3, 1, 2, 4, 7, 5, 6, 8, 11, 9, 10, 12, 15, 13, 14);
        CHECKS.same("and the mirror", x.classes(), 9);
    }

    /** Ways that are joined by several turns one behind the other alone. */
    private static void severalTurns() {
        LinkedCovers x = new LinkedCovers(4, 3);
        Build.painted(x, 0, 0, 1, 1);
        Build.painted(x, 0, 0, 2, 1);
        Build.painted(x, 0, 0, 3, 1);
        CHECKS.same("three ways", x.classes(), 3);
        Build.turn(x, 1, 2);
        CHECKS.same("two of them", x.classes(), 2);
        Build.turn(x, 2, 3);
        CHECKS.same("all of them", x.classes(), 1);
    }

    /** A turn that takes three ways round, asked twice, and there twice. */
    private static void cycles() {
        LinkedCovers x = new LinkedCovers(5, 4);
        for (int c = 1; c <= 4; c++) {
            Build.painted(x, 0, 0, c, 1);
        }
        int turn = x.turn();
        x.exchange(turn, 1, 2);
        x.exchange(turn, 1, 3);
        CHECKS.same("three of four", x.classes(), 2);
        CHECKS.same("asked again", x.classes(), 2);
        int again = x.turn();
        x.exchange(again, 1, 2);
        x.exchange(again, 1, 3);
        CHECKS.same("the same turn once more", x.classes(), 2);
        int back = x.turn();
        x.exchange(back, 1, 3);
        x.exchange(back, 1, 2);
        CHECKS.same("and the other way round", x.classes(), 2);
        x.exchange(back, 3, 4);
        CHECKS.same("all four", x.classes(), 1);
    }

    private static void columnZero() {
        LinkedCovers optional = new LinkedCovers(1, 1);
        Build.painted(optional, 0, 1);
        Build.painted(optional, 0, 2);
        CHECKS.same("unlike by the colour in column 0", optional.classes(), 1);
        Build.painted(optional, 0, 1);
        CHECKS.same("alike in column 0", optional.classes(), -1);
        LinkedCovers x = new LinkedCovers(3, 0);
        Build.row(x, 0, 1);
        Build.row(x, 2);
        Build.row(x, 1);
        Build.turn(x, 1, 2);
        CHECKS.same("there is no row of columns 0 and 2", x.classes(), -1);
        Build.row(x, 0, 2);
        CHECKS.same("now there is", x.classes(), 1);
    }

    /** 100 ways that a turn takes into one another, and sixty rows of which one goes nowhere. */
    private static void full() {
        LinkedCovers x = tens(10);
        Build.turn(x, 2, 3);
        CHECKS.same("100 ways, ten of them by two", x.classes(), 90);
        LinkedCovers y = new LinkedCovers(24, 22);
        for (int i = 0; i < 60; i++) {
            Build.painted(y, 0, 0, 2 + i % 20, i / 20);
        }
        CHECKS.same("sixty rows, and column 1 without any", y.classes(), 0);
        Build.turn(y, 2, 21);
        CHECKS.same("each goes to a row", y.classes(), 0);
        Build.turn(y, 2, 22);
        CHECKS.same("column 22 has none", y.classes(), -1);
    }

    private static void refusals() {
        LinkedCovers alike = new LinkedCovers(3, 1);
        Build.row(alike, 0, 1);
        Build.row(alike, 2);
        CHECKS.same("no two alike", alike.classes(), 1);
        Build.row(alike, 1);
        alike.entry(0, 0);
        CHECKS.same("two alike, entered in another order", alike.classes(), -1);
        LinkedCovers empty = new LinkedCovers(1, 0);
        empty.row();
        CHECKS.same("one row without columns", empty.classes(), 0);
        empty.row();
        CHECKS.same("two of them are alike", empty.classes(), -1);
        LinkedCovers lone = new LinkedCovers(2, 0);
        Build.row(lone, 0);
        Build.row(lone, 1);
        Build.turn(lone, 0, 1);
        CHECKS.same("each goes to the other", lone.classes(), 1);
        lone.times(0, 2);
        CHECKS.same("columns needed not as often", lone.classes(), -1);
        lone.times(1, 2);
        CHECKS.same("as often", lone.classes(), 0);
        Build.row(lone, 0, 1);
        CHECKS.same("this stays", lone.classes(), 1);
        LinkedCovers missing = new LinkedCovers(2, 0);
        Build.row(missing, 0);
        Build.turn(missing, 0, 1);
        CHECKS.same("a row goes to none", missing.classes(), -1);
        LinkedCovers late = new LinkedCovers(3, 0);
        Build.row(late, 0);
        late.turn();
        late.turn();
        Build.turn(late, 0, 1);
        CHECKS.same("the third of three turns", late.classes(), -1);
    }

    private static void colours() {
        LinkedCovers x = new LinkedCovers(3, 2);
        Build.painted(x, 0, 0, 1, 1);
        Build.painted(x, 0, 0, 1, 2);
        CHECKS.same("other colours: not alike", x.classes(), 2);
        Build.painted(x, 0, 0, 2, 1);
        Build.turn(x, 1, 2);
        CHECKS.same("colour 2 goes to none", x.classes(), -1);
        Build.painted(x, 0, 0, 2, 2);
        CHECKS.same("colours go with their columns", x.classes(), 2);
        LinkedCovers needed = new LinkedCovers(2, 0);
        Build.painted(needed, 0, 1);
        Build.painted(needed, 1, 5);
        Build.turn(needed, 0, 1);
        CHECKS.same("colours of needed columns do not matter", needed.classes(), 1);
        Build.painted(needed, 0, 2);
        CHECKS.same("so these are alike", needed.classes(), -1);
    }

    private static void neededAlike() {
        LinkedCovers x = new LinkedCovers(3, 1);
        Build.row(x, 0);
        Build.row(x, 1);
        Build.row(x, 2);
        Build.turn(x, 1, 2);
        CHECKS.same("a needed column to an optional one", x.classes(), -1);
        LinkedCovers bare = new LinkedCovers(4, 1);
        Build.row(bare, 0);
        Build.turn(bare, 2, 3);
        CHECKS.same("and of columns without rows", bare.classes(), -1);
        LinkedCovers often = new LinkedCovers(3, 0);
        Build.row(often, 0);
        often.times(1, 3);
        Build.turn(often, 1, 2);
        CHECKS.same("as often, of columns without rows", often.classes(), -1);
    }

    private static void limits() {
        LinkedCovers x = new LinkedCovers(3, 1);
        for (int i = 0; i < 10; i++) {
            Build.painted(x, 0, 0, 2, i % 8);
            if (i > 7) {
                x.entry(1, 0);
            }
        }
        CHECKS.same("ten rows, two ways", x.classes(), 2);
        LinkedCovers hundred = tens(10);
        CHECKS.same("100 ways", hundred.classes(), 100);
        CHECKS.same("110 ways", tens(11).classes(), -2);
        CHECKS.same("101 ways", hundredAndOne().classes(), -2);
        LinkedCovers deep = deepWithoutWays();
        CHECKS.same("50,000 nodes", deep.classes(), -2);
        CHECKS.same("as ways() says", deep.ways(1), -2);
        deep.turn();
        deep.exchange(0, 0, 15);
        CHECKS.same("-1 goes before -2", deep.classes(), -1);
        lastNode();
    }

    /** Searches of 49,999 and 50,000 nodes, which find nothing. */
    private static void lastNode() {
        LinkedCovers under = Build.chainWithoutWays(0);
        CHECKS.same("49,999 nodes: no classes", under.classes(), 0);
        CHECKS.same("no ways", under.ways(1), 0);
        CHECKS.same("49,999 nodes", under.nodes(), 49999);
        LinkedCovers just = Build.chainWithoutWays(1);
        CHECKS.same("50,000 nodes are come to", just.classes(), -2);
        just.take(0);
        CHECKS.same("whatever is taken", just.classes(), -2);
        CHECKS.same("from the row taken there is a node less", just.ways(1), 0);
        CHECKS.same("49,999 nodes", just.nodes(), 49999);
    }

    /** Ten rows for column 0, told apart by optional columns, and so many for column 1. */
    private static LinkedCovers tens(int second) {
        LinkedCovers x = new LinkedCovers(24, 22);
        for (int i = 0; i < 10; i++) {
            Build.row(x, 0, 2 + i);
        }
        for (int i = 0; i < second; i++) {
            Build.row(x, 1, 12 + i);
        }
        return x;
    }

    private static LinkedCovers hundredAndOne() {
        LinkedCovers x = tens(10);
        Build.row(x, 0, 1);
        return x;
    }

    /** Two rows for each of 15 columns; the last column is due twice, but its rows exclude one another. */
    private static LinkedCovers deepWithoutWays() {
        LinkedCovers x = new LinkedCovers(21, 5);
        for (int c = 0; c < 15; c++) {
            Build.row(x, c);
            Build.painted(x, c, 0, 16, 1);
        }
        x.times(15, 2);
        for (int i = 17; i < 20; i++) {
            Build.painted(x, 15, 0, 20, 0, i, 1);
        }
        return x;
    }

    private static void leavesTheRest() {
        LinkedCovers x = dominoes();
        x.ways(5);
        int nodes = x.nodes();
        int row = x.way(4, 3);
        CHECKS.same("classes", x.classes(), 36);
        CHECKS.same("nodes of ways() stay", x.nodes(), nodes);
        CHECKS.same("ways stay", x.way(4, 3), row);
        CHECKS.same("and no others", x.way(5, 0), -1);
        x.take(0);
        CHECKS.same("whatever is taken", x.classes(), 36);
        CHECKS.same("it stays taken", x.untake(), 0);
    }
}
