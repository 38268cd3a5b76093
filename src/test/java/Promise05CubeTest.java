/** Promise 5: cubes come to THE PIECE. */
public final class Promise05CubeTest {
    public static void main(String[] args) {
        Checks checks = new Checks();
        LinkedCovers x = new LinkedCovers(24, 0);
        checks.same("at first there are none", x.lay(2, 2, 2, 0, -1), -1);
        checks.no("cube(-1, 0, 0)", x.cube(-1, 0, 0));
        checks.no("cube(0, -1, 0)", x.cube(0, -1, 0));
        checks.no("cube(0, 0, -1)", x.cube(0, 0, -1));
        checks.no("cube(3, 0, 0)", x.cube(3, 0, 0));
        checks.no("cube(0, 3, 0)", x.cube(0, 3, 0));
        checks.no("cube(0, 0, 3)", x.cube(0, 0, 3));
        checks.no("cube(MAX, 0, MIN)", x.cube(Integer.MAX_VALUE, 0, Integer.MIN_VALUE));
        checks.same("still none", x.lay(2, 2, 2, 0, -1), -1);
        checks.yes("cube(2, 2, 2)", x.cube(2, 2, 2));
        checks.no("it has it", x.cube(2, 2, 2));
        checks.yes("cube(0, 1, 2)", x.cube(0, 1, 2));
        checks.yes("cube(1, 0, 2)", x.cube(1, 0, 2));
        checks.yes("cube(2, 1, 0)", x.cube(2, 1, 0));
        checks.yes("cube(0, 0, 0)", x.cube(0, 0, 0));
        checks.yes("cube(1, 1, 1)", x.cube(1, 1, 1));
        checks.yes("cube(2, 0, 0): the seventh", x.cube(2, 0, 0));
        checks.no("an eighth", x.cube(0, 2, 0));
        checks.no("one it has, of seven", x.cube(2, 0, 0));
        LinkedCovers held = new LinkedCovers(4, 0);
        Build.row(held, 0);
        held.take(0);
        checks.yes("cubes come while rows are taken", held.cube(0, 0, 0));
        held.untake();
        checks.same("and are laid afterwards", held.lay(2, 2, 1, 0, -1), 4);
        checks.yes("the piece has no cubes then", held.cube(0, 0, 0));
        everyCube(checks);
        sevenAreLaid(checks);
        checks.end();
    }

    private static void everyCube(Checks checks) {
        for (int x = -1; x <= 3; x++) {
            for (int y = -1; y <= 3; y++) {
                for (int z = -1; z <= 3; z++) {
                    boolean due = x >= 0 && x <= 2 && y >= 0 && y <= 2 && z >= 0 && z <= 2;
                    LinkedCovers one = new LinkedCovers(24, 0);
                    String name = "cube(" + x + ", " + y + ", " + z + ")";
                    checks.same(name, one.cube(x, y, z) ? 1 : 0, due ? 1 : 0);
                    checks.no(name + " again", one.cube(x, y, z));
                    checks.same(name + " laid", one.lay(2, 3, 4, 0, -1), due ? 24 : -1);
                }
            }
        }
    }

    /** The eighth cube is refused and not in the rows; then seven more can come. */
    private static void sevenAreLaid(Checks checks) {
        LinkedCovers x = new LinkedCovers(24, 0);
        for (int i = 0; i < 2; i++) {
            for (int c = 0; c < 7; c++) {
                checks.yes("cube " + c, x.cube(c % 3, c / 3, 0));
            }
            checks.no("the eighth", x.cube(1, 2, 0));
            checks.no("the eighth, not so either", x.cube(3, 2, 0));
            checks.same("laid", x.lay(3, 3, 1, 0, -1), 1);
            checks.same("with seven columns", x.tell(i, 0), 7);
            checks.same("the last of them", x.tell(i, 7), 6);
        }
    }
}
