/** Promise 4: columns come to the last row, with colours. */
public final class Promise04EntryTest {
    private static final Checks CHECKS = new Checks();

    public static void main(String[] args) {
        refusals();
        eightColumns();
        colours();
        colourOfNeeded();
        exceptionsComeFirst();
        refusedDoesNothing();
        CHECKS.end();
    }

    private static void refusals() {
        LinkedCovers x = new LinkedCovers(4, 1);
        CHECKS.no("entry without a row", x.entry(0, 0));
        CHECKS.noArgument("a wrong colour without a row", () -> x.entry(0, 8));
        x.row();
        CHECKS.noIndex("entry(-1, 0)", () -> x.entry(-1, 0));
        CHECKS.noIndex("entry(4, 0)", () -> x.entry(4, 0));
        CHECKS.noIndex("entry(4, 8): the column is looked at first", () -> x.entry(4, 8));
        CHECKS.noArgument("entry(0, 8)", () -> x.entry(0, 8));
        CHECKS.noArgument("entry(0, -1)", () -> x.entry(0, -1));
        CHECKS.noArgument("entry(3, MIN)", () -> x.entry(3, Integer.MIN_VALUE));
        CHECKS.same("nothing came", x.tell(0, 0), 0);
        CHECKS.yes("entry(2, 7)", x.entry(2, 7));
        CHECKS.no("the row has it", x.entry(2, 7));
        CHECKS.no("the row has it, whatever colour", x.entry(2, 1));
        CHECKS.noArgument("a wrong colour of a column it has", () -> x.entry(2, 9));
        x.take(0);
        CHECKS.no("entry while a row is taken", x.entry(0, 0));
        CHECKS.noIndex("no such column while a row is taken", () -> x.entry(4, 0));
        x.untake();
        CHECKS.same("one column", x.tell(0, 0), 1);
        x.row();
        x.entry(1, 0);
        CHECKS.same("the last row got it", x.tell(1, 1), 1);
        CHECKS.same("the first did not", x.tell(0, 0), 1);
    }

    private static void eightColumns() {
        LinkedCovers x = new LinkedCovers(24, 0);
        x.row();
        for (int c = 0; c < 8; c++) {
            CHECKS.yes("entry " + c, x.entry(3 * c, 0));
        }
        CHECKS.no("a ninth column", x.entry(1, 0));
        CHECKS.same("eight columns", x.tell(0, 0), 8);
        CHECKS.same("the eighth", x.tell(0, 8), 21);
        CHECKS.same("column 1 has no row", x.open(1), 0);
        x.row();
        CHECKS.yes("a new row has room", x.entry(1, 0));
    }

    /** Each reason for false, and in spite of it the exceptions. */
    private static void exceptionsComeFirst() {
        LinkedCovers x = new LinkedCovers(9, 1);
        refusesWith("no row", x);
        x.row();
        for (int c = 0; c < 8; c++) {
            CHECKS.yes("entry " + c, x.entry(c, c % 8));
        }
        refusesWith("eight columns", x);
        CHECKS.no("one of the eight", x.entry(7, 7));
        CHECKS.noArgument("one of the eight, a wrong colour", () -> x.entry(7, 8));
        x.take(0);
        refusesWith("rows are taken", x);
    }

    private static void refusesWith(String why, LinkedCovers x) {
        CHECKS.no(why, x.entry(8, 0));
        CHECKS.no(why + ", colour 7", x.entry(8, 7));
        CHECKS.noArgument(why + ", colour 8", () -> x.entry(8, 8));
        CHECKS.noArgument(why + ", colour -1", () -> x.entry(8, -1));
        CHECKS.noArgument(why + ", colour MAX", () -> x.entry(8, Integer.MAX_VALUE));
        CHECKS.noIndex(why + ", column 9", () -> x.entry(9, 0));
        CHECKS.noIndex(why + ", column -1", () -> x.entry(-1, 0));
        CHECKS.noIndex(why + ", column MIN and colour -1", () -> x.entry(Integer.MIN_VALUE, -1));
    }

    /** A colour that was refused leaves the one that was there. */
    private static void refusedDoesNothing() {
        LinkedCovers x = new LinkedCovers(3, 1);
        Build.painted(x, 0, 0, 2, 4);
        Build.painted(x, 1, 0, 2, 4);
        CHECKS.no("the row has it", x.entry(2, 5));
        CHECKS.no("the row has it, colour 0", x.entry(2, 0));
        CHECKS.noArgument("a wrong colour", () -> x.entry(2, 8));
        CHECKS.same("both still have colour 4", x.ways(5), 1);
        x.take(1);
        CHECKS.no("rows are taken", x.entry(0, 0));
        x.untake();
        CHECKS.same("row 1 has no column 0", x.open(0), 1);
        LinkedCovers none = new LinkedCovers(2, 0);
        none.entry(0, 0);
        none.row();
        CHECKS.same("an entry before there was a row is lost", none.tell(0, 0), 0);
    }

    private static int waysOf(int first, int second) {
        LinkedCovers x = new LinkedCovers(3, 1);
        Build.painted(x, 0, 0, 2, first);
        Build.painted(x, 1, 0, 2, second);
        return x.ways(10);
    }

    private static void colours() {
        CHECKS.same("colour 0 twice", waysOf(0, 0), 0);
        CHECKS.same("colours 0 and 1", waysOf(0, 1), 0);
        CHECKS.same("colours 1 and 0", waysOf(1, 0), 0);
        CHECKS.same("colours 1 and 2", waysOf(1, 2), 0);
        for (int colour = 1; colour <= 7; colour++) {
            CHECKS.same("one colour", waysOf(colour, colour), 1);
        }
        LinkedCovers x = new LinkedCovers(5, 2);
        Build.painted(x, 0, 0, 3, 5, 4, 1);
        Build.painted(x, 1, 0, 3, 5);
        Build.painted(x, 2, 0, 3, 5, 4, 2);
        Build.painted(x, 2, 0, 3, 5, 4, 1);
        CHECKS.same("three rows of one colour, and a second column", x.ways(10), 1);
        CHECKS.same("that way's last row", x.way(0, 2), 3);
    }

    private static void colourOfNeeded() {
        LinkedCovers x = new LinkedCovers(1, 0);
        Build.painted(x, 0, 1);
        Build.painted(x, 0, 1);
        Build.painted(x, 0, 2);
        CHECKS.same("of needed columns it does not matter", x.ways(10), 3);
        x.times(0, 2);
        CHECKS.same("nor when they are covered twice", x.ways(10), 3);
    }
}
