/** Promise 5: cubes come to THE PIECE. */
public final class Promise05CubeTest {
    public static void main(String[] args) {
        Checks checks = new Checks();
        LinkedCovers x = new LinkedCovers(24, 0);
        checks.same("at first there are none", x.lay(2, 2, 2, 0, -1), -1);
        checks.no("cube(-1, 0, 0)", x.cube(-1, 0, 0));
        checks.no("cube(0, -1, 0)", x.cube(0, -1, 0));
        checks.no("cube(0, 0, -1)", x.cube(0, 0, -1));
        checks.no("cube(3, 0, 0)", x.cube(3, 0, 0));
        checks.no("cube(0, 3, 0)", x.cube(0, 3, 0));
        checks.no("cube(0, 0, 3)", x.cube(0, 0, 3));
        checks.no("cube(MAX, 0, MIN)", x.cube(Integer.MAX_VALUE, 0, Integer.MIN_VALUE));
        checks.same("still none", x.lay(2, 2, 2, 0, -1), -1);
        checks.yes("cube(2, 2, 2)", x.cube(2, 2, 2));
        checks.no("it has it", x.cube(2, 2, 2));
        checks.yes("cube(0, 1, 2)", x.cube(0, 1, 2));
        checks.yes("cube(1, 0, 2)", x.cube(1, 0, 2));
        checks.yes("cube(2, 1, 0)", x.cube(2, 1, 0));
        checks.yes("cube(0, 0, 0)", x.cube(0, 0, 0));
        checks.yes("cube(1, 1, 1)", x.cube(1, 1, 1));
        checks.yes("cube(2, 0, 0): the seventh", x.cube(2, 0, 0));
        checks.no("an eighth", x.cube(0, 2, 0));
        checks.no("one it has, of seven", x.cube(2, 0, 0));
        LinkedCovers held = new LinkedCovers(4, 0);
        Build.row(held, 0);
        held.take(0);
        checks.yes("cubes come while rows are taken", held.cube(0, 0, 0));
        held.untake();
        checks.same("and are laid afterwards", held.lay(2, 2, 1, 0, -1), 4);
        checks.yes("the piece has no cubes then", held.cube(0, 0, 0));
        checks.end();
    }
}
