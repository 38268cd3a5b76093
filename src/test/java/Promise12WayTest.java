/** Promise 12: the rows of the ways found, until something changes. */
public final class Promise12WayTest {
    private static final Checks CHECKS = new Checks();

    public static void main(String[] args) {
        orderAndEdges();
        whatEndsIt();
        whatDoesNot();
        firstHundred();
        justAHundred();
        noneFound();
        CHECKS.end();
    }

    private static LinkedCovers small() {
        LinkedCovers x = new LinkedCovers(4, 1);
        Build.row(x, 1, 2);
        Build.row(x, 0);
        Build.row(x, 2);
        Build.row(x, 0, 1);
        Build.row(x, 1);
        return x;
    }

    private static void orderAndEdges() {
        LinkedCovers x = small();
        CHECKS.same("before ways()", x.way(0, 0), -1);
        CHECKS.same("ways", x.ways(10), 3);
        String[] due = {"0 1", "1 2 4", "2 3"};
        for (int k = 0; k < 3; k++) {
            CHECKS.same("way " + k + ": " + Build.way(x, k), Build.way(x, k).equals(due[k]) ? 1 : 0, 1);
        }
        CHECKS.same("way(0, 2)", x.way(0, 2), -1);
        CHECKS.same("way(0, -1)", x.way(0, -1), -1);
        CHECKS.same("way(0, MAX)", x.way(0, Integer.MAX_VALUE), -1);
        CHECKS.same("way(0, MIN)", x.way(0, Integer.MIN_VALUE), -1);
        CHECKS.same("way(3, 0)", x.way(3, 0), -1);
        CHECKS.same("way(-1, 0)", x.way(-1, 0), -1);
        CHECKS.same("way(MAX, 0)", x.way(Integer.MAX_VALUE, 0), -1);
        x.ways(1);
        CHECKS.same("the latest found one", x.way(1, 0), -1);
        x.take(4);
        x.ways(10);
        CHECKS.same("rows taken too: " + Build.way(x, 0), Build.way(x, 0).equals("1 2 4") ? 1 : 0, 1);
    }

    private static void ends(String what, LinkedCovers x, int due) {
        CHECKS.same(what, x.way(0, 0), due);
        x.ways(10);
    }

    private static void whatEndsIt() {
        LinkedCovers x = small();
        x.ways(10);
        x.times(0, 1);
        ends("times() was true", x, -1);
        x.entry(3, 1);
        ends("entry() was true", x, -1);
        x.row();
        ends("row() told a number", x, -1);
        x.take(0);
        ends("take() was true", x, -1);
        x.untake();
        ends("untake() told a number", x, -1);
        x.cube(0, 0, 0);
        ends("cube() does not", x, 0);
        x.lay(1, 1, 1, 0, -1);
        CHECKS.same("lay() brought rows", x.way(0, 0), -1);
        CHECKS.same("and goes on so", x.way(0, 0), -1);
        x.ways(10);
        CHECKS.same("until ways()", x.way(0, 0), 0);
    }

    private static void whatDoesNot() {
        LinkedCovers x = small();
        x.ways(10);
        x.times(0, 4);
        ends("times() was false", x, 0);
        x.entry(1, 0);
        ends("entry() was false", x, 0);
        try {
            x.entry(9, 0);
        } catch (ArrayIndexOutOfBoundsException e) {
            ends("entry() threw", x, 0);
        }
        x.untake();
        ends("untake() told none", x, 0);
        x.lay(1, 1, 1, 0, -1);
        ends("lay() was -1", x, 0);
        Build.cubes(x, 0, 0, 0, 1, 0, 0);
        x.lay(1, 1, 1, 0, -1);
        ends("lay() brought none", x, 0);
        x.turn();
        x.exchange(0, 0, 1);
        x.classes();
        x.open(0);
        x.tell(0, 0);
        x.nodes();
        x.ways(0);
        ends("turns, questions and ways(0)", x, 0);
        x.take(0);
        x.ways(10);
        x.take(0);
        x.row();
        x.classes();
        CHECKS.same("take() was false, row() -1", x.way(0, 0), 0);
    }

    /** 99, 100 and 101 ways found: the first 100 are told. */
    private static void justAHundred() {
        LinkedCovers x = Build.threeOfEach();
        for (int most = 99; most <= 101; most++) {
            CHECKS.same("ways(" + most + ")", x.ways(most), most);
            CHECKS.same("way 98 of " + most, x.way(98, 0), 0);
            CHECKS.same("way 99 of " + most, x.way(99, 0), most < 100 ? -1 : 0);
            CHECKS.same("way 100 of " + most, x.way(100, 0), -1);
        }
        x.ways(100000);
        CHECKS.same("of -2: way 99", x.way(99, 0), 0);
        CHECKS.same("of -2: way 100", x.way(100, 0), -1);
    }

    private static void noneFound() {
        LinkedCovers x = small();
        x.ways(10);
        x.times(0, 3);
        CHECKS.same("column 0 has two rows", x.ways(10), 0);
        CHECKS.same("of none there is no way", x.way(0, 0), -1);
        x.times(0, 1);
        x.take(2);
        x.take(1);
        x.take(4);
        CHECKS.same("the rows taken are the way", x.ways(10), 1);
        CHECKS.yes("by rising numbers, not as they were taken", Build.way(x, 0).equals("1 2 4"));
        CHECKS.same("behind the last", x.way(0, 3), -1);
        x.untake();
        CHECKS.same("untake() told a number", x.way(0, 0), -1);
        LinkedCovers empty = new LinkedCovers(1, 1);
        CHECKS.same("a way without rows", empty.ways(1), 1);
        CHECKS.same("has no row 0", empty.way(0, 0), -1);
    }

    private static void firstHundred() {
        LinkedCovers x = Build.threeOfEach();
        CHECKS.same("150 ways", x.ways(150), 150);
        CHECKS.same("way 0", x.way(0, 19), 57);
        CHECKS.same("way 1", x.way(1, 19), 58);
        CHECKS.same("way 99", x.way(99, 19), 57);
        CHECKS.same("way 98", x.way(98, 19), 59);
        CHECKS.same("way 100 is kept no more", x.way(100, 19), -1);
        CHECKS.same("way 149 is kept no more", x.way(149, 0), -1);
    }
}
