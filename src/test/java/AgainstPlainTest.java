import java.util.Random;

/** Runs of calls, made from fixed seeds, on the program and on PlainCovers: all answers have to be the same. */
public final class AgainstPlainTest {
    private static final int AIOOBE = -1000001;
    private static final int IAE = -1000002;
    private static final int RUNS = 4000;

    private final Checks checks;
    private final Random random;
    private final int run;
    private final int columns;
    private final int optional;
    private final LinkedCovers program;
    private final PlainCovers plain;
    private final StringBuilder told = new StringBuilder();
    private int calls = 0;
    private int rows = 0;
    private int turns = 0;
    private boolean same = true;

    private AgainstPlainTest(Checks checks, int run) {
        this.checks = checks;
        this.run = run;
        random = new Random(run);
        columns = random.nextInt(20) == 0 ? random.nextInt(40) - 5 : 1 + random.nextInt(random.nextBoolean() ? 24 : 8);
        optional = random.nextInt(20) == 0 ? random.nextInt(40) - 5 : random.nextInt(4);
        program = new LinkedCovers(columns, optional);
        plain = new PlainCovers(columns, optional);
    }

    private interface Call {
        int answer();
    }

    private static int answer(Call call) {
        try {
            return call.answer();
        } catch (ArrayIndexOutOfBoundsException e) {
            return AIOOBE;
        } catch (IllegalArgumentException e) {
            return IAE;
        }
    }

    private int hold(String name, Call mine, Call due) {
        if (!same || calls >= 512) return -1;
        calls++;
        int got = answer(mine);
        int want = answer(due);
        told.append(name).append(" -> ").append(want).append('\n');
        checks.same("seed " + run + ", call " + calls + ": " + name, got, want);
        if (got != want) {
            same = false;
            System.out.println("new (" + columns + ", " + optional + ")\n" + told);
        }
        return got;
    }

    private static int bit(boolean b) {
        return b ? 1 : 0;
    }

    private int columnNumber() {
        int n = Math.max(1, Math.min(24, columns));
        return random.nextInt(60) == 0 ? random.nextInt(4) == 0 ? -1 : n : random.nextInt(n);
    }

    private int rowNumber() {
        return rows == 0 || random.nextInt(60) == 0 ? random.nextInt(3) == 0 ? -1 : rows : random.nextInt(rows);
    }

    private void row() {
        int r = hold("row()", program::row, plain::row);
        if (r >= 0) rows = r + 1;
    }

    private void entry() {
        int c = columnNumber();
        int k = random.nextInt(40) == 0 ? random.nextInt(20) - 6 : random.nextInt(random.nextBoolean() ? 2 : 8);
        hold("entry(" + c + ", " + k + ")", () -> bit(program.entry(c, k)), () -> bit(plain.entry(c, k)));
    }

    private void times() {
        int c = columnNumber();
        int n = random.nextInt(10) == 0 ? random.nextInt(7) - 1 : 1 + random.nextInt(3);
        hold("times(" + c + ", " + n + ")", () -> bit(program.times(c, n)), () -> bit(plain.times(c, n)));
    }

    private void cube() {
        int x = random.nextInt(random.nextInt(10) == 0 ? 5 : 3) - (random.nextInt(20) == 0 ? 1 : 0);
        int y = random.nextInt(random.nextInt(10) == 0 ? 5 : 2);
        int z = random.nextInt(random.nextInt(10) == 0 ? 5 : 1 + random.nextInt(3));
        hold("cube(" + x + ", " + y + ", " + z + ")", () -> bit(program.cube(x, y, z)), () -> bit(plain.cube(x, y, z)));
    }

    private int side(int most) {
        return random.nextInt(40) == 0 ? random.nextInt(8) == 0 ? 65536 * 32767 : random.nextInt(30) - 3
                : 1 + random.nextInt(Math.max(1, most));
    }

    private void lay() {
        int n = Math.max(1, Math.min(24, columns));
        int w = side(Math.min(6, n));
        int h = side(n / Math.max(1, w));
        int d = side(n / Math.max(1, w) / Math.max(1, h));
        int kind = random.nextInt(30) == 0 ? random.nextInt(8) - 2 : random.nextInt(4);
        int p = random.nextInt(3) > 0 ? -1 : random.nextInt(10) == 0 ? random.nextInt(40) - 6 : n - 1 - random.nextInt(Math.min(n, 4));
        int came = hold("lay(" + w + ", " + h + ", " + d + ", " + kind + ", " + p + ")",
                () -> program.lay(w, h, d, kind, p), () -> plain.lay(w, h, d, kind, p));
        if (came > 0) rows += came;
    }

    private void take() {
        int r = rowNumber();
        hold("take(" + r + ")", () -> bit(program.take(r)), () -> bit(plain.take(r)));
    }

    private void untake() {
        hold("untake()", program::untake, plain::untake);
    }

    private void open() {
        int c = columnNumber();
        hold("open(" + c + ")", () -> program.open(c), () -> plain.open(c));
    }

    private void ways() {
        int most = random.nextInt(15) == 0 ? random.nextInt(2) * 100001 - random.nextInt(2)
                : random.nextInt(3) == 0 ? 1 + random.nextInt(5) : 1 + random.nextInt(400);
        hold("ways(" + most + ")", () -> program.ways(most), () -> plain.ways(most));
    }

    private void nodes() {
        hold("nodes()", program::nodes, plain::nodes);
    }

    private void way() {
        int k = random.nextInt(random.nextInt(4) == 0 ? 120 : 3) - (random.nextInt(40) == 0 ? 1 : 0);
        int i = random.nextInt(8) - (random.nextInt(40) == 0 ? 1 : 0);
        hold("way(" + k + ", " + i + ")", () -> program.way(k, i), () -> plain.way(k, i));
    }

    private void turn() {
        int t = hold("turn()", program::turn, plain::turn);
        if (t >= 0) turns = t + 1;
    }

    private void exchange(int t, int a, int b) {
        hold("exchange(" + t + ", " + a + ", " + b + ")", () -> bit(program.exchange(t, a, b)), () -> bit(plain.exchange(t, a, b)));
    }

    private void exchange() {
        int t = turns == 0 || random.nextInt(40) == 0 ? turns - random.nextInt(2) * 9 : random.nextInt(turns);
        exchange(t, columnNumber(), columnNumber());
    }

    private void classes() {
        hold("classes()", program::classes, plain::classes);
    }

    private void tell() {
        int r = rowNumber();
        int what = random.nextInt(11) - 1;
        hold("tell(" + r + ", " + what + ")", () -> program.tell(r, what), () -> plain.tell(r, what));
    }

    private void some(int kind) {
        if (kind < 3) row();
        else if (kind < 12) entry();
        else if (kind < 14) times();
        else if (kind < 19) cube();
        else if (kind < 22) lay();
        else if (kind < 26) take();
        else if (kind < 28) untake();
        else if (kind < 31) open();
        else if (kind < 34) ways();
        else if (kind < 36) nodes();
        else if (kind < 42) way();
        else if (kind < 43) turn();
        else if (kind < 44) exchange();
        else if (kind < 46) classes();
        else tell();
    }

    private void anyCalls(int n, int from, int to) {
        for (int i = 0; i < n; i++) {
            some(from + random.nextInt(to - from));
        }
    }

    private void manyRows() {
        int want = 1 + random.nextInt(60);
        int width = 1 + random.nextInt(4);
        for (int i = 0; i < want && calls < 400; i++) {
            row();
            for (int j = 0; j <= random.nextInt(width); j++) entry();
        }
    }

    /** Rows of which a turn makes rows, as two columns that are exchanged come into each row by pairs. */
    private void rowsAlikeUnderATurn() {
        int n = Math.max(2, Math.min(24, columns));
        int a = random.nextInt(n);
        int b = random.nextInt(n);
        turn();
        exchange(turns - 1, a, b);
        int want = 1 + random.nextInt(10);
        for (int i = 0; i < want; i++) {
            int c = random.nextInt(n);
            int other = random.nextInt(n);
            int k = random.nextInt(3);
            pairRow(c, other, k);
            pairRow(c == a ? b : c == b ? a : c, other == a ? b : other == b ? a : other, k);
        }
    }

    private void pairRow(int c, int other, int k) {
        row();
        hold("entry(" + c + ", " + k + ")", () -> bit(program.entry(c, k)), () -> bit(plain.entry(c, k)));
        hold("entry(" + other + ", 1)", () -> bit(program.entry(other, 1)), () -> bit(plain.entry(other, 1)));
    }

    private void go() {
        switch (run % 4) {
            case 0:
                anyCalls(300, 0, 50);
                break;
            case 1:
                if (random.nextBoolean()) anyCalls(3, 12, 14);
                manyRows();
                anyCalls(80, 22, 50);
                break;
            case 2:
                for (int i = 0; i < 4; i++) {
                    anyCalls(1 + random.nextInt(7), 14, 19);
                    lay();
                    anyCalls(6, 46, 50);
                }
                anyCalls(60, 22, 50);
                break;
            default:
                rowsAlikeUnderATurn();
                if (random.nextInt(3) == 0) rowsAlikeUnderATurn();
                classes();
                anyCalls(30, 22, 50);
                anyCalls(5, 12, 14);
                classes();
        }
    }

    public static void main(String[] args) {
        int from = args.length > 0 ? Integer.parseInt(args[0]) : 0;
        int to = args.length > 1 ? Integer.parseInt(args[1]) : RUNS;
        Checks checks = new Checks();
        for (int run = from; run < to; run++) {
            new AgainstPlainTest(checks, run).go();
        }
        checks.end();
    }
}
