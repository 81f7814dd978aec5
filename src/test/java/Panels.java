/** Panels that the tests share, and what can be seen of one. */
final class Panels {
    /** What no length, place, gap, rail or radius can be; two of them would be one if they were cut down to an int. */
    static final long[] NO_LENGTHS = {
        -1, 65537, Integer.MIN_VALUE, 1L << 32, (1L << 32) + 5, Long.MIN_VALUE, Long.MAX_VALUE,
    };
    /** What is no index of anything, besides the numbers right outside of it. */
    static final int[] FAR_OUT = {Integer.MIN_VALUE, -65536, 65536, Integer.MAX_VALUE};

    private Panels() {
    }

    static int addBoard(PanelForms p, long[]... corners) {
        int n = p.board();
        for (long[] c : corners) {
            p.corner(n, c[0], c[1]);
        }
        return n;
    }

    static int addBox(PanelForms p, long wide, long high) {
        return addBoard(p, new long[][] {{0, 0}, {wide, 0}, {wide, high}, {0, high}});
    }

    /** A panel with one board, a box. */
    static PanelForms withBox(long width, long height, long wide, long high) {
        PanelForms p = new PanelForms(width, height);
        addBox(p, wide, high);
        return p;
    }

    /** Best are two rows of 3 as it is and two of 5 turned: 16 copies, which fill all but a 25th of it. */
    static PanelForms sixteen() {
        return withBox(100, 100, 30, 20);
    }

    /**
     * All boards made, the first with all its corners and parts, behind a run, with a bad copy: whatever
     * a refused call could spoil is there, and few enough copies that all can be seen twice in 512 calls.
     */
    static PanelForms busy() {
        PanelForms p = new PanelForms(60, 40);
        addBoard(p, new long[][] {{3, 4}, {8, 4}, {13, 4}, {18, 4}, {23, 4}, {23, 9},
            {23, 14}, {18, 14}, {13, 14}, {8, 14}, {3, 14}, {3, 9}});
        addBoard(p, new long[][] {{5, 5}, {13, 5}, {5, 20}});
        p.board();
        addBoard(p, new long[][] {{0, 7}, {9, 7}});
        for (int n = 0; n < 10; n++) {
            p.part(0, 13, n == 0 ? 4 : 9, 1);
        }
        p.part(1, 5, 12, 2);
        p.wants(0, 3);
        p.wants(1, 4);
        for (int side = 0; side < 4; side++) {
            p.rail(side, 1 + side);
        }
        p.gap(1);
        p.radius(2);
        p.run(4, 3);
        p.bad(1, true);
        return p;
    }

    /** A refused call changes nothing: neither what can be seen at once, nor what the next run looks at. */
    static void leavesAll(String what, Check.CallOn refused) {
        PanelForms asked = busy();
        PanelForms other = busy();
        Check.told(() -> refused.answer(asked));
        Check.same(what + " leaves what can be seen", seen(asked), seen(other));
        asked.run(4, 8);
        other.run(4, 8);
        Check.same(what + " leaves what the next run looks at", seen(asked), seen(other));
    }

    /** All answers of the calls that change nothing. */
    static String seen(PanelForms p) {
        StringBuilder s = new StringBuilder();
        s.append(p.proved()).append(p.overlaps()).append(' ').append(p.waste(0)).append('/').append(p.waste(1));
        for (int k = 0; k < 17; k++) {
            int n = k;
            s.append(" score ").append(Check.told(() -> p.score(n, 0))).append(Check.told(() -> p.score(n, 1)));
        }
        for (int c = 0; p.order(c) != PanelForms.NONE; c++) {
            s.append(" copy ").append(p.order(c));
            for (int what = 0; what < 6; what++) {
                s.append(' ').append(p.at(c, what));
            }
            for (int n = 0; n < 8; n++) {
                int copy = c;
                int k = n;
                s.append(' ').append(Check.told(() -> p.tab(copy, k / 2, k % 2)));
                s.append(' ').append(p.mill(4 * c + k / 2, k % 2));
            }
        }
        return s.toString();
    }

    /** The rows as text: board, turn and number of copies of each. */
    static String rows(PanelForms p, int copies) {
        StringBuilder s = new StringBuilder();
        int from = 0;
        for (int c = 1; c <= copies; c++) {
            if (c == copies || p.at(c, 2) != p.at(from, 2)) {
                s.append(p.at(from, 0)).append('/').append(p.at(from, 3)).append('x').append(c - from).append(' ');
                from = c;
            }
        }
        return s.toString().trim();
    }

    /** A run lays these rows, and no copy behind them. */
    static void ran(String what, PanelForms p, int kinds, long nodes, String want) {
        int copies = p.run(kinds, nodes);
        Check.same(what, rows(p, copies), want);
        Check.index(what + ": no copy behind the last", () -> p.at(copies, 0));
    }
}
