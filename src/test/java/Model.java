import java.math.BigInteger;
import java.util.ArrayList;
import java.util.Arrays;
import java.util.List;
import java.util.TreeMap;

/** The document once more, written as plainly as can be, to be asked beside the class: all rows are made and compared. */
final class Model {
    static final class Copy {
        int board;
        int turn;
        int row;
        long x;
        long y;
        long wide;
        long high;
        boolean bad;
    }

    private final long width;
    private final long height;
    private final List<List<long[]>> corners = new ArrayList<>();
    private final List<List<long[]>> parts = new ArrayList<>();
    private final List<Integer> wanted = new ArrayList<>();
    private final long[] rails = new long[4];
    private long gap;
    private long radius;
    private boolean proved;
    private List<Copy> copies = new ArrayList<>();

    Model(long width, long height) {
        this.width = Math.min(Math.max(width, 1), 65536);
        this.height = Math.min(Math.max(height, 1), 65536);
    }

    private static void index(boolean ok) {
        if (!ok) {
            throw new IndexOutOfBoundsException();
        }
    }

    private static void argument(boolean ok) {
        if (!ok) {
            throw new IllegalArgumentException();
        }
    }

    private static boolean length(long v) {
        return 0 <= v && v <= 65536;
    }

    private void needBoard(int n) {
        index(0 <= n && n < corners.size());
    }

    private void needCopy(int n) {
        index(0 <= n && n < copies.size());
    }

    int board() {
        if (corners.size() == 4) {
            return -1;
        }
        corners.add(new ArrayList<>());
        parts.add(new ArrayList<>());
        wanted.add(200);
        return corners.size() - 1;
    }

    boolean corner(int board, long x, long y) {
        needBoard(board);
        argument(length(x) && length(y));
        return corners.get(board).size() < 12 && corners.get(board).add(new long[] {x, y});
    }

    boolean part(int board, long x, long y, long r) {
        needBoard(board);
        argument(length(x) && length(y) && length(r) && r != 0);
        return parts.get(board).size() < 10 && parts.get(board).add(new long[] {x, y, r});
    }

    private long least(int board, int axis) {
        return corners.get(board).stream().mapToLong(c -> c[axis]).min().orElse(0);
    }

    private long size(int board, int axis) {
        return corners.get(board).stream().mapToLong(c -> c[axis]).max().orElse(0) - least(board, axis);
    }

    int run(int kinds, long nodes) {
        argument(0 <= kinds && kinds <= 4 && 0 <= nodes && nodes <= 8);
        int boards = Math.min(kinds, corners.size());
        copies = best(boards, (int) nodes);
        proved = boards == corners.size() && best(boards, (int) nodes + 1).size() <= copies.size();
        return copies.size();
    }

    private List<Copy> best;
    private int[] bestRows;

    private List<Copy> best(int boards, int nodes) {
        best = new ArrayList<>();
        bestRows = new int[0];
        fill(new int[2 * boards], 0, nodes);
        return best;
    }

    /** All numbers of rows of each board and turn. */
    private void fill(int[] counts, int kind, int left) {
        if (kind == counts.length) {
            compare(counts);
            return;
        }
        for (int n = 0; n <= left; n++) {
            counts[kind] = n;
            fill(counts, kind + 1, left - n);
        }
        counts[kind] = 0;
    }

    private void compare(int[] counts) {
        int[] rows = new int[Arrays.stream(counts).sum()];
        int at = 0;
        for (int kind = 0; kind < counts.length; kind++) {
            for (int n = 0; n < counts[kind]; n++) {
                rows[at++] = kind;
            }
        }
        List<Copy> laid = lay(rows);
        if (laid == null || laid.size() < best.size()) {
            return;
        }
        boolean better = laid.size() > best.size() || rows.length < bestRows.length
            || (rows.length == bestRows.length && Arrays.compare(rows, bestRows) < 0);
        if (better) {
            best = laid;
            bestRows = rows;
        }
    }

    private List<Copy> lay(int[] rows) {
        List<Copy> laid = new ArrayList<>();
        int[] used = new int[4];
        long y = rails[1];
        for (int row = 0; row < rows.length; row++) {
            int board = rows[row] / 2;
            int turn = rows[row] % 2;
            long wide = size(board, turn);
            long high = size(board, 1 - turn);
            if (wide == 0 || high == 0 || y + high > height - rails[3]) {
                return null;
            }
            int inRow = 0;
            for (long x = rails[0]; x + wide <= width - rails[2] && inRow < 20 && used[board] < wanted.get(board);
                    x += wide + gap) {
                Copy c = new Copy();
                c.board = board;
                c.turn = turn;
                c.row = row;
                c.x = x;
                c.y = y;
                c.wide = wide;
                c.high = high;
                laid.add(c);
                inRow++;
                used[board]++;
            }
            if (inRow == 0) {
                return null;
            }
            y += high + gap;
        }
        return laid;
    }

    int copies() {
        return copies.size();
    }

    long at(int copy, int what) {
        needCopy(copy);
        index(0 <= what && what <= 5);
        Copy c = copies.get(copy);
        return new long[] {c.board, c.x, c.y, c.turn, c.wide, c.high}[what];
    }

    boolean proved() {
        return proved;
    }

    boolean gap(long v) {
        argument(length(v));
        boolean other = v != gap;
        gap = v;
        return other;
    }

    boolean radius(long r) {
        argument(length(r));
        boolean other = r != radius;
        radius = r;
        return other;
    }

    boolean rail(int side, long v) {
        index(0 <= side && side <= 3);
        argument(length(v));
        boolean other = v != rails[side];
        rails[side] = v;
        return other;
    }

    boolean wants(int board, int n) {
        needBoard(board);
        argument(0 <= n && n <= 200);
        return wanted.set(board, n) != n;
    }

    long tab(int copy, int k, int what) {
        needCopy(copy);
        index(0 <= k && k <= 3 && 0 <= what && what <= 1);
        Copy c = copies.get(copy);
        long x = k == 0 ? c.x : k == 2 ? c.x + c.wide : (c.x + c.x + c.wide) / 2;
        long y = k == 1 ? c.y : k == 3 ? c.y + c.high : (c.y + c.y + c.high) / 2;
        for (long[] p : parts.get(c.board)) {
            long alongX = p[0] - least(c.board, 0);
            long up = p[1] - least(c.board, 1);
            long partX = c.turn == 0 ? c.x + alongX : c.x + size(c.board, 1) - up;
            long partY = c.turn == 0 ? c.y + up : c.y + alongX;
            if ((partX - x) * (partX - x) + (partY - y) * (partY - y) < p[2] * p[2]) {
                throw new IllegalStateException();
            }
        }
        return what == 0 ? x : y;
    }

    long score(int k, int what) {
        TreeMap<Long, Long> lines = new TreeMap<>();
        for (Copy c : copies) {
            lines.merge(c.y, 1L, Long::sum);
            lines.merge(c.y + c.high, 1L, Long::sum);
        }
        index(0 <= k && k < lines.size() && 0 <= what && what <= 1);
        Long y = new ArrayList<>(lines.keySet()).get(k);
        return what == 0 ? y : lines.get(y);
    }

    long waste(int part) {
        index(0 <= part && part <= 1);
        BigInteger whole = BigInteger.valueOf(2 * width * height);
        BigInteger free = whole;
        for (Copy c : copies) {
            List<long[]> ring = corners.get(c.board);
            long twice = 0;
            for (int n = 0; n < ring.size(); n++) {
                long[] a = ring.get(n);
                long[] b = ring.get((n + 1) % ring.size());
                twice += (b[0] - a[0]) * (a[1] + b[1]);
            }
            free = free.subtract(BigInteger.valueOf(Math.abs(twice)));
        }
        BigInteger divisor = whole.gcd(free);
        return (part == 0 ? free : whole).divide(divisor).longValueExact();
    }

    private List<Copy> cuts() {
        List<Copy> cuts = new ArrayList<>();
        copies.stream().filter(c -> !c.bad).forEach(cuts::add);
        copies.stream().filter(c -> c.bad).forEach(cuts::add);
        return cuts;
    }

    long mill(int k, int axis) {
        index(0 <= k && k < 4 * copies.size() && 0 <= axis && axis <= 1);
        Copy c = cuts().get(k / 4);
        long[] xs = {c.x - radius, c.x + c.wide + radius, c.x + c.wide + radius, c.x - radius};
        long[] ys = {c.y - radius, c.y - radius, c.y + c.high + radius, c.y + c.high + radius};
        return axis == 0 ? xs[k % 4] : ys[k % 4];
    }

    boolean bad(int copy, boolean on) {
        needCopy(copy);
        boolean other = copies.get(copy).bad != on;
        copies.get(copy).bad = on;
        return other;
    }

    /** Looked at for real here, so that the document's "never" is tested too. */
    boolean overlaps() {
        for (Copy a : copies) {
            for (Copy b : copies) {
                if (a != b && a.x < b.x + b.wide && b.x < a.x + a.wide && a.y < b.y + b.high && b.y < a.y + a.high) {
                    return true;
                }
            }
        }
        return false;
    }

    int order(int k) {
        return 0 <= k && k < copies.size() ? copies.indexOf(cuts().get(k)) : -1;
    }
}
