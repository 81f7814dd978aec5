/** A run and where its copies lie, sentence by sentence: promises 4, 5, 6 and 16. */
public final class RunTest {
    public static void main(String[] args) {
        Sentences.askAll(RunTest.class);
    }

    @Says(in = "Promise 4", sentence = "A RUN over so many boards (0 .. 4) and ROWS (0 .. 8)")
    static void fewestAndMostBoardsAndRows() {
        PanelForms p = Panels.sixteen();
        Check.due("no boards, no rows", p.run(0, 0), 0);
        Check.due("no boards", p.run(0, 8), 0);
        Check.due("no rows", p.run(4, 0), 0);
        Check.due("one of both", p.run(1, 1), 5);
        Check.due("the most of both", p.run(4, 8), 16);
        PanelForms full = new PanelForms(65536, 65536);
        for (int n = 0; n < 4; n++) {
            Panels.addBox(full, 1, 1);
        }
        full.wants(0, 40);
        full.wants(1, 40);
        full.wants(2, 40);
        Check.due("8 rows of 20, of four boards", full.run(4, 8), 160);
        Check.due("the last copy's board", full.at(159, 0), 3);
        Check.due("the last copy's x", full.at(159, 1), 19);
        Check.due("the last copy's y", full.at(159, 2), 7);
    }

    @Says(in = "Promise 4", sentence = "how many copies there are now")
    static void copiesOfTheRunBeforeAreGone() {
        PanelForms p = Panels.sixteen();
        Check.due("many", p.run(1, 8), 16);
        Check.due("few", p.run(1, 1), 5);
        Check.due("the last of the few", p.at(4, 1), 80);
        Check.index("none behind them", () -> p.at(5, 0));
        Check.due("no cut behind them", p.order(5), PanelForms.NONE);
        Check.index("no score behind them", () -> p.score(2, 0));
        Check.index("no way behind them", () -> p.mill(20, 0));
        Check.due("none", p.run(0, 8), 0);
        Check.index("no copy", () -> p.at(0, 0));
        Check.index("no tab", () -> p.tab(0, 0, 0));
        Check.index("no score", () -> p.score(0, 0));
        Check.index("no way", () -> p.mill(0, 0));
        Check.due("all is wasted", p.waste(0), 1);
        Check.due("many again", p.run(1, 8), 16);
        Check.due("the last of them", p.at(15, 1), 80);
    }

    @Says(in = "Promise 4", sentence = "no copy is BAD")
    static void noCopyIsBadBehindARun() {
        PanelForms p = Panels.sixteen();
        p.run(1, 1);
        for (int copy = 0; copy < 5; copy++) {
            p.bad(copy, true);
        }
        p.run(1, 0);
        p.run(1, 8);
        for (int copy = 0; copy < 16; copy++) {
            Check.due("the order of cuts", p.order(copy), copy);
            Check.no("not bad " + copy, p.bad(copy, false));
        }
    }

    @Says(in = "Promise 4", sentence = "IllegalArgumentException, when a number is not so")
    static void runOverNoSuchNumber() {
        PanelForms p = Panels.sixteen();
        for (int no : new int[] {-1, 5, Integer.MIN_VALUE, Integer.MAX_VALUE}) {
            Check.argument("boards " + no, () -> p.run(no, 1));
            Panels.leavesAll("boards " + no, q -> q.run(no, 1));
        }
        for (long no : new long[] {-1, 9, Integer.MIN_VALUE, 1L << 32, (1L << 32) + 1, Long.MIN_VALUE, Long.MAX_VALUE}) {
            Check.argument("rows " + no, () -> p.run(1, no));
            Panels.leavesAll("rows " + no, q -> q.run(1, no));
        }
        Check.argument("both", () -> p.run(-1, 9));
    }

    /** 98 by 96 between left and low rail, gaps of 1: three rows as it is, and one turned. */
    private static PanelForms thirteen() {
        PanelForms p = Panels.sixteen();
        p.rail(0, 2);
        p.rail(1, 4);
        p.gap(1);
        p.run(1, 8);
        return p;
    }

    private static final long[][] THIRTEEN = {
        {0, 2, 4, 0, 30, 20}, {0, 33, 4, 0, 30, 20}, {0, 64, 4, 0, 30, 20},
        {0, 2, 25, 0, 30, 20}, {0, 33, 25, 0, 30, 20}, {0, 64, 25, 0, 30, 20},
        {0, 2, 46, 0, 30, 20}, {0, 33, 46, 0, 30, 20}, {0, 64, 46, 0, 30, 20},
        {0, 2, 67, 1, 20, 30}, {0, 23, 67, 1, 20, 30}, {0, 44, 67, 1, 20, 30}, {0, 65, 67, 1, 20, 30},
    };

    private static void areThirteen(PanelForms p) {
        for (int copy = 0; copy < THIRTEEN.length; copy++) {
            for (int what = 0; what < 6; what++) {
                Check.due("copy " + copy + ", what " + what, p.at(copy, what), THIRTEEN[copy][what]);
            }
        }
    }

    @Says(in = "Promise 5", sentence = "Of a copy, from 0 on, ROW by ROW, from the left: its board (what 0), "
        + "its BOX's x (1), y (2), its turn (3), how wide (4) and high (5) it is")
    static void atTellsEachCopy() {
        areThirteen(thirteen());
        PanelForms second = new PanelForms(10, 10);
        second.board();
        Panels.addBox(second, 10, 4);
        second.run(2, 8);
        Check.due("the second board's number", second.at(1, 0), 1);
        Check.due("its turn", second.at(1, 3), 1);
    }

    @Says(in = "Promise 5", sentence = "as it was in the RUN")
    static void atIsThatOfTheRun() {
        PanelForms p = thirteen();
        p.corner(0, 60, 70);
        p.rail(0, 50);
        p.rail(1, 50);
        p.gap(9);
        p.wants(0, 1);
        p.board();
        p.bad(0, true);
        p.radius(4);
        areThirteen(p);
    }

    @Says(in = "Promise 5", sentence = "IndexOutOfBoundsException, when there is no such copy, or what")
    static void atOfNoCopyOrWhat() {
        PanelForms p = thirteen();
        Check.index("copy -1", () -> p.at(-1, 0));
        Check.index("copy 13", () -> p.at(13, 0));
        Check.index("what -1", () -> p.at(0, -1));
        Check.index("what 6", () -> p.at(12, 6));
        for (int far : Panels.FAR_OUT) {
            Check.index("copy " + far, () -> p.at(far, 0));
            Check.index("what " + far, () -> p.at(0, far));
            Check.index("both " + far, () -> p.at(far, far));
        }
        PanelForms full = Panels.withBox(20, 8, 1, 1);
        full.run(1, 8);
        Check.due("the last of the most copies", full.at(159, 0), 0);
        Check.index("one behind the most copies", () -> full.at(160, 0));
    }

    @Says(in = "Promise 6", sentence = "Whether the latest RUN looked at all boards that there were")
    static void provedOfAllBoards() {
        PanelForms p = Panels.sixteen();
        p.run(1, 8);
        Check.yes("one of one", p.proved());
        p.board();
        Check.yes("a board made behind the run was not there", p.proved());
        p.run(1, 8);
        Check.no("one of two, though the second has no corner", p.proved());
        p.run(2, 8);
        Check.yes("two of two", p.proved());
        p.run(4, 8);
        Check.yes("four of two", p.proved());
        p.run(0, 8);
        Check.no("none of two", p.proved());
        PanelForms empty = new PanelForms(5, 5);
        empty.run(0, 0);
        Check.yes("none of none", empty.proved());
        empty.run(4, 8);
        Check.yes("four of none", empty.proved());
        for (int n = 0; n < 4; n++) {
            Panels.addBox(empty, 5, 5);
        }
        empty.run(3, 8);
        Check.no("three of four", empty.proved());
        empty.run(4, 8);
        Check.yes("four of four", empty.proved());
    }

    @Says(in = "Promise 6", sentence = "and with one ROW more there would not have been more copies")
    static void provedWithOneRowMore() {
        PanelForms p = Panels.sixteen();
        for (int rows = 0; rows <= 8; rows++) {
            p.run(1, rows);
            Check.due("rows " + rows + ", of which four hold the most", Check.one(p.proved()), rows < 4 ? 0 : 1);
        }
        // Three high ones fill one row; it takes four flat rows, one copy each, to have more.
        PanelForms late = Panels.withBox(30, 28, 10, 28);
        Panels.addBox(late, 30, 7);
        boolean[] due = {false, true, true, false, true};
        for (int rows = 0; rows < due.length; rows++) {
            late.run(2, rows);
            Check.due("rows " + rows + ": only one more counts", Check.one(late.proved()), Check.one(due[rows]));
        }
        PanelForms wanted = Panels.sixteen();
        wanted.wants(0, 10);
        wanted.run(1, 1);
        Check.no("five of ten wanted", wanted.proved());
        wanted.run(1, 2);
        Check.yes("all that are wanted", wanted.proved());
    }

    @Says(in = "Promise 6", sentence = "and with one ROW more there would not have been more copies")
    static void provedWithANinthRow() {
        PanelForms flat = Panels.withBox(65536, 9, 65536, 1);
        Check.due("eight rows", flat.run(1, 8), 8);
        Check.no("a ninth would hold one more", flat.proved());
        flat.wants(0, 8);
        flat.run(1, 8);
        Check.yes("but it is not wanted", flat.proved());
        flat.wants(0, 9);
        flat.rail(1, 1);
        flat.run(1, 8);
        Check.yes("no room for a ninth", flat.proved());
        Check.due("the ninth is looked for, not laid", flat.order(8), PanelForms.NONE);
        flat.rail(1, 0);
        flat.gap(1);
        Check.due("rows with gaps", flat.run(1, 8), 5);
        Check.yes("no room for a sixth", flat.proved());
    }

    @Says(in = "Promise 6", sentence = "the latest RUN")
    static void provedIsThatOfTheRun() {
        PanelForms p = Panels.withBox(65536, 9, 65536, 1);
        p.run(1, 8);
        p.rail(1, 1);
        p.wants(0, 1);
        Check.no("nothing changes without a run", p.proved());
        p.run(1, 8);
        p.wants(0, 200);
        p.rail(1, 0);
        p.corner(0, 0, 0);
        Check.yes("nothing changes without a run", p.proved());
        p.run(1, 0);
        Check.no("the run before does not count", p.proved());
    }

    @Says(in = "Promise 6", sentence = "(False without any.)")
    static void notProvedWithoutARun() {
        PanelForms p = new PanelForms(5, 5);
        Check.no("a new object", p.proved());
        Check.argument("a refused run", () -> p.run(5, 0));
        Check.no("a refused run is none", p.proved());
        Panels.addBox(p, 5, 5);
        Check.no("with a board", p.proved());
    }

    @Says(in = "Promise 16", sentence = "Whether two copies' BOXES overlap. (Never.)")
    static void neverOverlaps() {
        PanelForms p = Panels.sixteen();
        Check.no("without copies", p.overlaps());
        p.run(1, 8);
        Check.no("side by side", p.overlaps());
        p.corner(0, 90, 90);
        p.gap(7);
        p.radius(65536);
        Check.no("of a board that has grown since", p.overlaps());
        p.run(1, 8);
        Check.no("of the grown board", p.overlaps());
    }

    @Says(in = "Promise 16", sentence = "(Never.)")
    static void noTwoBoxesOverlap() {
        PanelForms p = Panels.sixteen();
        p.run(1, 8);
        long[][] copies = new long[16][6];
        for (int copy = 0; copy < 16; copy++) {
            for (int what = 0; what < 6; what++) {
                copies[copy][what] = p.at(copy, what);
            }
            for (int other = 0; other < copy; other++) {
                Check.no("copies " + other + " and " + copy, overlap(copies[other], copies[copy]));
            }
        }
    }

    private static boolean overlap(long[] a, long[] b) {
        return a[1] < b[1] + b[4] && b[1] < a[1] + a[4] && a[2] < b[2] + b[5] && b[2] < a[2] + a[5];
    }
}
