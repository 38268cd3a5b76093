import java.util.ArrayDeque;
import java.util.ArrayList;
import java.util.Deque;
import java.util.HashSet;
import java.util.List;
import java.util.Map;
import java.util.Set;
import java.util.TreeMap;
import java.util.TreeSet;

/** The document once more, word by word and without care for speed, to hold the program against. */
final class PlainCovers {
    private final int columns;
    private final int needed;
    private final int[] times;
    private final List<TreeMap<Integer, Integer>> rows = new ArrayList<>();
    private final List<Integer> taken = new ArrayList<>();
    private List<int[]> piece = new ArrayList<>();
    private final List<int[]> turns = new ArrayList<>();
    private List<TreeSet<Integer>> found = new ArrayList<>();
    private int latestNodes = 0;
    private boolean stale = true;

    PlainCovers(int columns, int optional) {
        this.columns = columns < 1 ? 1 : columns > 24 ? 24 : columns;
        int last = optional < 0 ? 0 : optional > this.columns ? this.columns : optional;
        needed = this.columns - last;
        times = new int[needed];
        java.util.Arrays.fill(times, 1);
    }

    private void column(int c) {
        if (c < 0 || c >= columns) throw new ArrayIndexOutOfBoundsException();
    }

    private void rowNumber(int r) {
        if (r < 0 || r >= rows.size()) throw new ArrayIndexOutOfBoundsException();
    }

    boolean times(int c, int n) {
        column(c);
        if (n < 1 || n > 3 || c >= needed || !taken.isEmpty()) return false;
        times[c] = n;
        stale = true;
        return true;
    }

    int row() {
        if (rows.size() == 60 || !taken.isEmpty()) return -1;
        rows.add(new TreeMap<>());
        stale = true;
        return rows.size() - 1;
    }

    boolean entry(int c, int colour) {
        column(c);
        if (colour < 0 || colour > 7) throw new IllegalArgumentException();
        if (rows.isEmpty() || !taken.isEmpty()) return false;
        TreeMap<Integer, Integer> last = rows.get(rows.size() - 1);
        if (last.containsKey(c) || last.size() == 8) return false;
        last.put(c, c < needed ? 0 : colour);
        stale = true;
        return true;
    }

    boolean cube(int x, int y, int z) {
        if (x < 0 || y < 0 || z < 0 || x > 2 || y > 2 || z > 2 || piece.size() == 7) return false;
        for (int[] p : piece) {
            if (p[0] == x && p[1] == y && p[2] == z) return false;
        }
        piece.add(new int[] {x, y, z});
        return true;
    }

    private static List<int[]> aboutZ(List<int[]> p) {
        List<int[]> q = new ArrayList<>();
        for (int[] c : p) q.add(new int[] {-c[1], c[0], c[2]});
        return q;
    }

    private static List<int[]> aboutX(List<int[]> p) {
        List<int[]> q = new ArrayList<>();
        for (int[] c : p) q.add(new int[] {c[0], -c[2], c[1]});
        return q;
    }

    private static List<int[]> aboutY(List<int[]> p) {
        List<int[]> q = new ArrayList<>();
        for (int[] c : p) q.add(new int[] {c[2], c[1], -c[0]});
        return q;
    }

    private static void quarters(List<List<int[]>> all, List<int[]> p) {
        for (int i = 0; i < 4; i++) {
            all.add(p);
            p = aboutZ(p);
        }
    }

    /** Each of the six sides turned up in its way, then quarter turns about z. */
    private List<List<int[]>> turned(int kind) {
        List<List<int[]>> all = new ArrayList<>();
        if (kind == 0) {
            all.add(piece);
            return all;
        }
        quarters(all, piece);
        if (kind >= 2) quarters(all, aboutX(aboutX(piece)));
        if (kind == 3) {
            quarters(all, aboutX(piece));
            quarters(all, aboutX(aboutX(aboutX(piece))));
            quarters(all, aboutY(piece));
            quarters(all, aboutY(aboutY(aboutY(piece))));
        }
        return all;
    }

    int lay(int w, int h, int d, int kind, int p) {
        if (p != -1) column(p);
        if (w < 1 || h < 1 || d < 1) return -1;
        java.math.BigInteger box = java.math.BigInteger.valueOf(w).multiply(java.math.BigInteger.valueOf(h))
                .multiply(java.math.BigInteger.valueOf(d));
        if (box.compareTo(java.math.BigInteger.valueOf(columns)) > 0) return -1;
        if (kind < 0 || kind > 3 || piece.isEmpty() || !taken.isEmpty()) return -1;
        if (p != -1 && p < box.intValue()) throw new IllegalArgumentException();
        TreeSet<Integer> sets = new TreeSet<>();
        for (List<int[]> form : turned(kind)) {
            for (int x = -3; x < w + 3; x++) {
                for (int y = -3; y < h + 3; y++) {
                    for (int z = -3; z < d + 3; z++) {
                        int set = 0;
                        for (int[] c : form) {
                            int cx = c[0] + x;
                            int cy = c[1] + y;
                            int cz = c[2] + z;
                            if (cx < 0 || cy < 0 || cz < 0 || cx >= w || cy >= h || cz >= d) {
                                set = 0;
                                break;
                            }
                            set |= 1 << (cx + w * (cy + h * cz));
                        }
                        if (set != 0) sets.add(set);
                    }
                }
            }
        }
        if (rows.size() + sets.size() > 60) return -1;
        for (int set : sets) {
            TreeMap<Integer, Integer> r = new TreeMap<>();
            for (int c = 0; c < columns; c++) {
                if ((set >> c & 1) != 0) r.put(c, 0);
            }
            if (p != -1) r.put(p, 0);
            rows.add(r);
        }
        piece = new ArrayList<>();
        if (!sets.isEmpty()) stale = true;
        return sets.size();
    }

    private boolean hasNeeded(int r) {
        return !rows.get(r).isEmpty() && rows.get(r).firstKey() < needed;
    }

    private boolean fitTogether(List<Integer> some) {
        for (int c = 0; c < columns; c++) {
            List<Integer> colours = new ArrayList<>();
            for (int r : some) {
                if (rows.get(r).containsKey(c)) colours.add(rows.get(r).get(c));
            }
            if (c < needed) {
                if (colours.size() > times[c]) return false;
            } else if (colours.size() > 1 && (colours.get(0) == 0 || new HashSet<>(colours).size() > 1)) {
                return false;
            }
        }
        return true;
    }

    private static List<Integer> with(List<Integer> some, int r) {
        List<Integer> more = new ArrayList<>(some);
        more.add(r);
        return more;
    }

    private boolean couldBeTaken(int r) {
        return hasNeeded(r) && !taken.contains(r) && fitTogether(with(taken, r));
    }

    boolean take(int r) {
        rowNumber(r);
        if (!couldBeTaken(r)) return false;
        taken.add(r);
        stale = true;
        return true;
    }

    int untake() {
        if (taken.isEmpty()) return -1;
        stale = true;
        return taken.remove(taken.size() - 1);
    }

    int open(int c) {
        column(c);
        int n = 0;
        for (int r = 0; r < rows.size(); r++) {
            if (rows.get(r).containsKey(c) && couldBeTaken(r)) n++;
        }
        return n;
    }

    private final class Run {
        final int most;
        int nodes = 0;
        final List<TreeSet<Integer>> ways = new ArrayList<>();
        final Set<Integer> barred = new HashSet<>();

        Run(int most) {
            this.most = most;
        }

        boolean over() {
            return nodes >= 50000 || ways.size() >= most;
        }

        void node(List<Integer> chosen) {
            nodes++;
            if (nodes >= 50000) return;
            List<Integer> best = null;
            for (int c = 0; c < needed; c++) {
                List<Integer> candidates = new ArrayList<>();
                int covered = 0;
                for (int r = 0; r < rows.size(); r++) {
                    if (!rows.get(r).containsKey(c)) continue;
                    if (chosen.contains(r)) covered++;
                    else if (!barred.contains(r) && fitTogether(with(chosen, r))) candidates.add(r);
                }
                if (covered < times[c] && (best == null || candidates.size() < best.size())) best = candidates;
            }
            if (best == null) {
                ways.add(new TreeSet<>(chosen));
                return;
            }
            List<Integer> barredHere = new ArrayList<>();
            for (int r : best) {
                if (over()) break;
                node(with(chosen, r));
                barred.add(r);
                barredHere.add(r);
            }
            barred.removeAll(barredHere);
        }
    }

    int ways(int most) {
        if (most < 1 || most > 100000) return -1;
        Run run = new Run(most);
        run.node(taken);
        latestNodes = run.nodes;
        found = run.ways;
        stale = false;
        return run.nodes >= 50000 ? -2 : run.ways.size();
    }

    int nodes() {
        return latestNodes;
    }

    int way(int k, int i) {
        if (stale || k < 0 || k >= found.size() || k >= 100 || i < 0 || i >= found.get(k).size()) return -1;
        return new ArrayList<>(found.get(k)).get(i);
    }

    int turn() {
        if (turns.size() == 8) return -1;
        int[] t = new int[columns];
        for (int c = 0; c < columns; c++) t[c] = c;
        turns.add(t);
        return turns.size() - 1;
    }

    boolean exchange(int turn, int a, int b) {
        if (turn < 0 || turn >= turns.size()) throw new ArrayIndexOutOfBoundsException();
        column(a);
        column(b);
        int[] t = turns.get(turn);
        int kept = t[a];
        t[a] = t[b];
        t[b] = kept;
        return a != b;
    }

    private TreeMap<Integer, Integer> image(int[] t, TreeMap<Integer, Integer> r) {
        TreeMap<Integer, Integer> image = new TreeMap<>();
        for (Map.Entry<Integer, Integer> e : r.entrySet()) image.put(t[e.getKey()], e.getValue());
        return image;
    }

    int classes() {
        if (new HashSet<>(rows).size() < rows.size()) return -1;
        for (int[] t : turns) {
            for (int c = 0; c < columns; c++) {
                if (c < needed != t[c] < needed || c < needed && times[c] != times[t[c]]) return -1;
            }
            for (TreeMap<Integer, Integer> r : rows) {
                if (!rows.contains(image(t, r))) return -1;
            }
        }
        Run run = new Run(101);
        run.node(new ArrayList<>());
        if (run.nodes >= 50000 || run.ways.size() > 100) return -2;
        Set<Set<Integer>> left = new HashSet<>(run.ways);
        int classes = 0;
        while (!left.isEmpty()) {
            classes++;
            Deque<Set<Integer>> reached = new ArrayDeque<>();
            Set<Integer> first = left.iterator().next();
            left.remove(first);
            reached.add(first);
            while (!reached.isEmpty()) {
                Set<Integer> way = reached.remove();
                for (int[] t : turns) {
                    Set<Integer> other = new TreeSet<>();
                    for (int r : way) other.add(rows.indexOf(image(t, rows.get(r))));
                    if (left.remove(other)) reached.add(other);
                }
            }
        }
        return classes;
    }

    int tell(int r, int what) {
        rowNumber(r);
        List<Integer> list = new ArrayList<>(rows.get(r).keySet());
        if (what == 0) return list.size();
        return what < 1 || what > list.size() ? -1 : list.get(what - 1);
    }
}
