/** Promise 6: THE PIECE laid into a box. */
public final class Promise06LayTest {
    private static final Checks CHECKS = new Checks();
    // A left and a right screw of four cubes, which no turn takes into one another.
    private static final int[] SCREW = {0, 0, 0, 1, 0, 0, 1, 1, 0, 1, 1, 1};
    private static final int[] OTHER_SCREW = {1, 0, 0, 0, 0, 0, 0, 1, 0, 0, 1, 1};
    private static final int[] EL = {0, 0, 0, 1, 0, 0, 2, 0, 0, 0, 1, 0};
    private static final int[] BENT = {0, 0, 0, 1, 0, 0, 0, 1, 0};

    public static void main(String[] args) {
        turns();
        turnedSets();
        order();
        pieceColumn();
        refusals();
        exceptions();
        room();
        boxes();
        noPlace();
        tilings();
        CHECKS.end();
    }

    private static int laid(int[] cubes, int w, int h, int d, int kind) {
        LinkedCovers x = new LinkedCovers(24, 0);
        Build.cubes(x, cubes);
        return x.lay(w, h, d, kind, -1);
    }

    private static void turns() {
        int[] bar = {0, 0, 0, 1, 0, 0, 2, 0, 0};
        CHECKS.same("a bar, as it is", laid(bar, 3, 3, 2, 0), 6);
        CHECKS.same("a bar, about z", laid(bar, 3, 3, 2, 1), 12);
        CHECKS.same("a bar, turned over", laid(bar, 3, 3, 2, 2), 12);
        CHECKS.same("a bar, all turns, not high enough", laid(bar, 3, 3, 2, 3), 12);
        CHECKS.same("a bar stood up", laid(bar, 2, 2, 3, 3), 4);
        CHECKS.same("an L, as it is", laid(EL, 3, 2, 1, 0), 1);
        CHECKS.same("an L, about z", laid(EL, 3, 2, 1, 1), 2);
        CHECKS.same("an L, turned over", laid(EL, 3, 2, 1, 2), 4);
        CHECKS.same("an L, all turns", laid(EL, 3, 2, 1, 3), 4);
        CHECKS.same("an L on its side", laid(EL, 3, 1, 2, 2), 0);
        CHECKS.same("an L on its side, all turns", laid(EL, 3, 1, 2, 3), 4);
        CHECKS.same("a bent piece in a cube, as it is", laid(BENT, 2, 2, 2, 0), 2);
        CHECKS.same("a bent piece in a cube, about z", laid(BENT, 2, 2, 2, 1), 8);
        CHECKS.same("a bent piece in a cube, turned over", laid(BENT, 2, 2, 2, 2), 8);
        CHECKS.same("a bent piece in a cube, all turns", laid(BENT, 2, 2, 2, 3), 24);
        CHECKS.same("a screw, as it is", laid(SCREW, 2, 2, 2, 0), 1);
        CHECKS.same("a screw, about z", laid(SCREW, 2, 2, 2, 1), 4);
        CHECKS.same("a screw, turned over", laid(SCREW, 2, 2, 2, 2), 8);
        CHECKS.same("a screw, all turns: no mirror images", laid(SCREW, 2, 2, 2, 3), 12);
        LinkedCovers x = new LinkedCovers(8, 0);
        Build.cubes(x, SCREW);
        x.lay(2, 2, 2, 3, -1);
        Build.cubes(x, OTHER_SCREW);
        x.lay(2, 2, 2, 3, -1);
        CHECKS.same("the other screw's rows are others", x.classes() == -1 ? 1 : 0, 0);
        CHECKS.same("cubes far apart", laid(new int[] {0, 0, 0, 2, 0, 0}, 3, 1, 1, 0), 1);
        CHECKS.same("a piece that does not touch 0 is moved there", laid(new int[] {2, 2, 2}, 1, 1, 1, 0), 1);
        CHECKS.same("in a long box", laid(new int[] {2, 2, 2}, 24, 1, 1, 3), 24);
        CHECKS.same("along z", laid(new int[] {0, 0, 0, 1, 0, 0}, 1, 1, 24, 3), 23);
        CHECKS.same("along z, about z alone", laid(new int[] {0, 0, 0, 1, 0, 0}, 1, 1, 24, 2), 0);
    }

    private static void sets(String what, LinkedCovers x, int first, String... due) {
        for (int i = 0; i < due.length; i++) {
            String got = Build.columns(x, first + i);
            CHECKS.yes(what + ", row " + i + ": " + got, got.equals(due[i]));
        }
    }

    /** Which sets come, not how many alone: an L lies in 3 by 2 as it is, half turned, and turned over. */
    private static void turnedSets() {
        LinkedCovers x = new LinkedCovers(8, 0);
        Build.cubes(x, EL);
        CHECKS.same("as it is", x.lay(3, 2, 1, 0, -1), 1);
        sets("as it is", x, 0, "0 1 2 3");
        Build.cubes(x, EL);
        CHECKS.same("about z", x.lay(3, 2, 1, 1, -1), 2);
        sets("about z", x, 1, "0 1 2 3", "2 3 4 5");
        Build.cubes(x, EL);
        CHECKS.same("quarter turns", x.lay(2, 3, 1, 1, -1), 2);
        sets("quarter turns", x, 3, "0 1 3 5", "0 2 4 5");
        Build.cubes(x, EL);
        CHECKS.same("turned over as well", x.lay(3, 2, 1, 2, -1), 4);
        sets("turned over as well", x, 5, "0 1 2 3", "0 1 2 5", "0 3 4 5", "2 3 4 5");
        Build.cubes(x, SCREW);
        CHECKS.same("a screw about z", x.lay(2, 2, 2, 1, -1), 4);
        // Corners of the layer go 0, 1, 3, 2, 0; the cube above goes with the third.
        sets("a screw about z", x, 9, "0 2 3 4", "0 1 2 5", "1 2 3 6", "0 1 3 7");
    }

    private static void order() {
        LinkedCovers x = new LinkedCovers(12, 0);
        Build.row(x, 11);
        Build.cubes(x, BENT);
        CHECKS.same("a bent piece", x.lay(2, 2, 1, 1, -1), 4);
        String[] due = {"0 1 2", "0 1 3", "0 2 3", "1 2 3"};
        for (int i = 0; i < 4; i++) {
            CHECKS.same("row " + (i + 1) + ": " + Build.columns(x, i + 1), Build.columns(x, i + 1).equals(due[i]) ? 1 : 0, 1);
        }
        Build.cubes(x, 0, 0, 0, 0, 1, 0, 0, 1, 1);
        CHECKS.same("one place", x.lay(2, 2, 2, 0, -1), 2);
        CHECKS.same("x + w (y + h z): " + Build.columns(x, 5), Build.columns(x, 5).equals("0 2 6") ? 1 : 0, 1);
        CHECKS.same("x + w (y + h z): " + Build.columns(x, 6), Build.columns(x, 6).equals("1 3 7") ? 1 : 0, 1);
        Build.cubes(x, 0, 0, 0, 0, 1, 1);
        CHECKS.same("two places", x.lay(1, 3, 2, 0, -1), 2);
        CHECKS.same("w 1, h 3: " + Build.columns(x, 7), Build.columns(x, 7).equals("0 4") ? 1 : 0, 1);
        CHECKS.same("w 1, h 3: " + Build.columns(x, 8), Build.columns(x, 8).equals("1 5") ? 1 : 0, 1);
        LinkedCovers grid = new LinkedCovers(9, 0);
        Build.cubes(grid, 0, 0, 0, 1, 0, 0);
        grid.lay(3, 3, 1, 1, -1);
        CHECKS.same("0 3 stands behind 0 1 and 1 2, which are less as bits", Build.columns(grid, 2).equals("0 3") ? 1 : 0, 1);
    }

    private static void pieceColumn() {
        LinkedCovers x = new LinkedCovers(10, 1);
        Build.cubes(x, 0, 0, 0, 1, 0, 0);
        CHECKS.same("with a column of its own", x.lay(2, 2, 1, 1, 4), 4);
        CHECKS.same("it has it: " + Build.columns(x, 3), Build.columns(x, 3).equals("2 3 4") ? 1 : 0, 1);
        Build.cubes(x, 0, 0, 0, 1, 0, 0, 0, 1, 0, 1, 1, 0, 2, 0, 0, 2, 1, 0, 2, 2, 0);
        CHECKS.same("seven cubes and a column", x.lay(3, 3, 1, 0, 9), 1);
        CHECKS.same("are eight columns", x.tell(4, 0), 8);
        CHECKS.no("and no ninth", x.entry(6, 0));
        LinkedCovers shared = new LinkedCovers(3, 1);
        Build.cubes(shared, 0, 0, 0);
        shared.lay(2, 1, 1, 0, 2);
        CHECKS.same("colour 0: an optional column once alone", shared.ways(10), 0);
        LinkedCovers low = new LinkedCovers(3, 0);
        Build.cubes(low, 0, 0, 0);
        CHECKS.same("the last row gets entries then", low.lay(1, 1, 1, 0, 2), 1);
        low.entry(1, 0);
        CHECKS.same("three columns", low.tell(0, 0), 3);
    }

    private static void refusals() {
        LinkedCovers x = new LinkedCovers(8, 0);
        Build.cubes(x, 0, 0, 0);
        int big = 1 << 30;
        int[][] wrong = {{0, 1, 1, 0}, {1, 0, 1, 0}, {1, 1, 0, 0}, {-1, -1, 1, 0}, {-2, 1, -2, 0}, {9, 1, 1, 0}, {3, 3, 1, 0},
            {1, 1, 9, 0}, {big, 4, 1, 0}, {65536, 65536, 1, 0}, {big, big, big, 0}, {1 << 22, 1 << 21, 1 << 21, 0},
            {2, 2, 2, -1}, {2, 2, 2, 4}, {2, 2, 2, Integer.MAX_VALUE}, {Integer.MIN_VALUE, 2, 1, 1}};
        for (int[] w : wrong) {
            CHECKS.same("lay(" + w[0] + ", " + w[1] + ", " + w[2] + ", " + w[3] + ", -1)", x.lay(w[0], w[1], w[2], w[3], -1), -1);
        }
        CHECKS.noIndex("no rows came", () -> x.tell(0, 0));
        CHECKS.no("the piece still has its cube", x.cube(0, 0, 0));
        CHECKS.same("a box of all columns", x.lay(2, 2, 2, 0, -1), 8);
        CHECKS.same("the piece has none", x.lay(2, 2, 2, 0, -1), -1);
        Build.cubes(x, 0, 0, 0);
        x.take(0);
        CHECKS.same("rows are taken", x.lay(1, 1, 1, 0, -1), -1);
        x.untake();
        CHECKS.same("no more", x.lay(1, 1, 1, 0, -1), 1);
        Build.cubes(x, 0, 0, 0, 1, 0, 0);
        CHECKS.same("a piece that has no place", x.lay(1, 1, 1, 3, -1), 0);
        CHECKS.same("has no cubes then, either", x.lay(2, 1, 1, 3, -1), -1);
    }

    private static void exceptions() {
        LinkedCovers x = new LinkedCovers(8, 0);
        CHECKS.noIndex("no such column, before the piece has cubes", () -> x.lay(0, 0, 0, 9, 8));
        CHECKS.noIndex("piece -2", () -> x.lay(0, 0, 0, 9, -2));
        CHECKS.noIndex("piece MIN", () -> x.lay(1, 1, 1, 0, Integer.MIN_VALUE));
        CHECKS.same("-1 is due: no cubes", x.lay(2, 2, 1, 0, 3), -1);
        Build.cubes(x, 0, 0, 0);
        CHECKS.noArgument("a column of the box", () -> x.lay(2, 2, 1, 0, 3));
        CHECKS.noArgument("column 0 of the box", () -> x.lay(2, 2, 2, 0, 0));
        CHECKS.noIndex("no such column", () -> x.lay(2, 2, 1, 0, 8));
        CHECKS.same("-1 is due: the box", x.lay(9, 1, 1, 0, 3), -1);
        CHECKS.same("-1 is due: a side", x.lay(0, 1, 1, 0, 3), -1);
        CHECKS.same("-1 is due: the turns", x.lay(2, 2, 1, 4, 3), -1);
        CHECKS.no("the piece still has its cube", x.cube(0, 0, 0));
        Build.row(x, 0);
        x.take(0);
        CHECKS.same("-1 is due: taken", x.lay(2, 2, 1, 0, 3), -1);
        CHECKS.noIndex("no such column, rows taken", () -> x.lay(2, 2, 1, 0, 8));
        x.untake();
        CHECKS.same("the first column behind the box", x.lay(2, 2, 1, 0, 4), 4);
    }

    private static void room() {
        LinkedCovers x = new LinkedCovers(24, 0);
        for (int i = 0; i < 36; i++) {
            x.row();
        }
        Build.cubes(x, 0, 0, 0, 1, 0, 0);
        CHECKS.same("24 rows where 24 have room", x.lay(4, 4, 1, 1, -1), 24);
        Build.cubes(x, 0, 0, 0, 1, 0, 0);
        CHECKS.same("no room at all", x.lay(2, 1, 1, 0, -1), -1);
        CHECKS.noArgument("a column of the box goes before the room", () -> x.lay(2, 1, 1, 0, 1));
        CHECKS.same("but no rows need no room", x.lay(1, 1, 1, 0, -1), 0);
        LinkedCovers y = new LinkedCovers(24, 0);
        for (int i = 0; i < 37; i++) {
            y.row();
        }
        Build.cubes(y, 0, 0, 0, 1, 0, 0);
        CHECKS.same("24 rows where 23 have room", y.lay(4, 4, 1, 1, -1), -1);
        CHECKS.noIndex("none came", () -> y.tell(37, 0));
        CHECKS.no("the piece still has its cubes", y.cube(1, 0, 0));
        CHECKS.same("fewer have room", y.lay(4, 4, 1, 0, -1), 12);
        LinkedCovers many = new LinkedCovers(24, 0);
        Build.cubes(many, EL);
        CHECKS.same("more than 60 of a piece", many.lay(2, 3, 4, 3, -1), -1);
        CHECKS.no("the piece still has its cubes", many.cube(2, 0, 0));
    }

    /** Sides of 0 and 1, and boxes of all columns and of one cube more, along each side. */
    private static void boxes() {
        for (int side = 0; side < 3; side++) {
            for (int length = -1; length <= 26; length++) {
                LinkedCovers x = new LinkedCovers(24, 0);
                Build.cubes(x, 1, 1, 1);
                int due = length >= 1 && length <= 24 ? length : -1;
                int w = side == 0 ? length : 1;
                int h = side == 1 ? length : 1;
                int d = side == 2 ? length : 1;
                CHECKS.same("a box " + w + ", " + h + ", " + d, x.lay(w, h, d, 3, -1), due);
            }
        }
        int[][] full = {{2, 3, 4}, {4, 3, 2}, {3, 2, 4}, {12, 2, 1}, {1, 4, 6}};
        for (int[] b : full) {
            LinkedCovers x = new LinkedCovers(24, 0);
            Build.cubes(x, 2, 0, 1);
            CHECKS.same("24 cubes for 24 columns", x.lay(b[0], b[1], b[2], 2, -1), 24);
            LinkedCovers y = new LinkedCovers(23, 0);
            Build.cubes(y, 2, 0, 1);
            CHECKS.same("24 cubes for 23 columns", y.lay(b[0], b[1], b[2], 2, -1), -1);
        }
        LinkedCovers one = new LinkedCovers(1, 1);
        Build.cubes(one, 0, 2, 0);
        CHECKS.noArgument("the only column is one of the box", () -> one.lay(1, 1, 1, 0, 0));
        CHECKS.same("one cube for one column", one.lay(1, 1, 1, 0, -1), 1);
    }

    /** No set comes: no rows, and all that is asked of a lay that is not -1 still holds. */
    private static void noPlace() {
        LinkedCovers x = new LinkedCovers(6, 0);
        Build.cubes(x, 0, 0, 0, 1, 0, 0, 2, 0, 0);
        CHECKS.noArgument("a column of the box", () -> x.lay(2, 2, 1, 3, 3));
        CHECKS.noIndex("no such column", () -> x.lay(2, 2, 1, 3, 6));
        CHECKS.same("no place", x.lay(2, 2, 1, 3, 4), 0);
        CHECKS.noIndex("no row", () -> x.tell(0, 0));
        CHECKS.yes("the piece has no cubes", x.cube(0, 0, 0));
        CHECKS.same("the cube that came since", x.lay(2, 2, 1, 0, 5), 4);
        CHECKS.yes("column 5 in each: " + Build.columns(x, 0), Build.columns(x, 0).equals("0 5"));
    }

    private static void tilings() {
        LinkedCovers x = new LinkedCovers(8, 0);
        Build.cubes(x, 0, 0, 0, 1, 0, 0);
        CHECKS.same("the edges of a cube", x.lay(2, 2, 2, 3, -1), 12);
        CHECKS.same("dominoes in a cube", x.ways(100), 9);
        LinkedCovers board = new LinkedCovers(24, 0);
        Build.cubes(board, 0, 0, 0, 1, 0, 0);
        CHECKS.same("dominoes on 6 by 4", board.lay(6, 4, 1, 1, -1), 38);
        CHECKS.same("their ways", board.ways(1000), 281);
    }
}
