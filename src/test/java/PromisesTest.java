/** Each promise by itself: ordinary inputs, the edges that the document names, wrong inputs. */
public final class PromisesTest {
    public static void main(String[] args) {
        newObject();
        board();
        corner();
        runChooses();
        runFits();
        runWanted();
        runWrong();
        at();
        proved();
        gap();
        tab();
        tabOffParts();
        tabOffTurnedParts();
        score();
        part();
        waste();
        mill();
        radius();
        bad();
        rail();
        overlaps();
        order();
        wants();
        Check.end();
    }

    private static int addBox(PanelForms p, long wide, long high) {
        int n = p.board();
        p.corner(n, 0, 0);
        p.corner(n, wide, 0);
        p.corner(n, wide, high);
        p.corner(n, 0, high);
        return n;
    }

    /** 100 by 100 with a board of 30 by 20: best are two rows of 3 as it is, and two of 5 turned. */
    private static PanelForms sixteen() {
        PanelForms p = new PanelForms(100, 100);
        addBox(p, 30, 20);
        return p;
    }

    /** The rows as text: board, turn and number of copies of each. */
    private static String rows(PanelForms p, int copies) {
        StringBuilder s = new StringBuilder();
        int from = 0;
        for (int c = 1; c <= copies; c++) {
            if (c == copies || p.at(c, 2) != p.at(from, 2)) {
                s.append(p.at(from, 0)).append('/').append(p.at(from, 3)).append('x').append(c - from).append(' ');
                from = c;
            }
        }
        return s.toString().trim();
    }

    private static void ran(String what, PanelForms p, int kinds, long nodes, String want) {
        int copies = p.run(kinds, nodes);
        Check.same(what, rows(p, copies), want);
        Check.index(what + ": no copy behind the last", () -> p.at(copies, 0));
    }

    private static void newObject() {
        PanelForms p = new PanelForms(10, 20);
        Check.index("new: copy 0", () -> p.at(0, 0));
        Check.index("new: board 0", () -> Check.one(p.corner(0, 1, 1)));
        Check.due("new: order", p.order(0), -1);
        Check.index("new: score", () -> p.score(0, 0));
        Check.index("new: mill", () -> p.mill(0, 0));
        Check.due("new: waste above", p.waste(0), 1);
        Check.due("new: waste below", p.waste(1), 1);
        Check.no("new: gap 0 is another one", p.gap(0));
        Check.no("new: radius 0 is another one", p.radius(0));
        for (int side = 0; side < 4; side++) {
            Check.no("new: rail 0 is another one", p.rail(side, 0));
        }
        panelsTold(0, -5, 1, 1);
        panelsTold(Long.MIN_VALUE, 1, 1, 1);
        panelsTold(65537, Long.MAX_VALUE, 65536, 65536);
        panelsTold(65536, 65535, 65536, 65535);
    }

    private static void panelsTold(long width, long height, long realWidth, long realHeight) {
        PanelForms p = new PanelForms(width, height);
        addBox(p, realWidth, realHeight);
        p.wants(0, 1);
        Check.due("a board of the panel's size fits", p.run(1, 1), 1);
        Check.due("and leaves nothing: above", p.waste(0), 0);
        Check.due("and leaves nothing: below", p.waste(1), 1);
        if (realWidth < 65536) {
            PanelForms q = new PanelForms(width, height);
            addBox(q, realWidth + 1, realHeight + 1);
            Check.due("a larger one does not", q.run(1, 1), 0);
        }
    }

    private static void board() {
        PanelForms p = new PanelForms(10, 10);
        for (int n = 0; n < 4; n++) {
            Check.due("board number", p.board(), n);
        }
        Check.due("no fifth board", p.board(), PanelForms.NONE);
        Check.due("no fifth board, again", p.board(), PanelForms.NONE);
        Check.due("boards without corners", p.run(4, 8), 0);
    }

    private static void corner() {
        PanelForms p = new PanelForms(100, 100);
        p.board();
        Check.index("corner of board -1", () -> Check.one(p.corner(-1, 0, 0)));
        Check.index("corner of board 1", () -> Check.one(p.corner(1, 0, 0)));
        Check.index("no board ahead of no place", () -> Check.one(p.corner(1, -1, 0)));
        Check.argument("x -1", () -> Check.one(p.corner(0, -1, 0)));
        Check.argument("y -1", () -> Check.one(p.corner(0, 0, -1)));
        Check.argument("x 65537", () -> Check.one(p.corner(0, 65537, 0)));
        Check.argument("y 65537", () -> Check.one(p.corner(0, 0, 65537)));
        Check.argument("x far out", () -> Check.one(p.corner(0, Long.MIN_VALUE, 0)));
        for (int n = 0; n < 12; n++) {
            Check.yes("corner " + n, p.corner(0, 10 + n, 20));
        }
        Check.no("a thirteenth corner", p.corner(0, 5, 60));
        Check.argument("a thirteenth that is no place", () -> Check.one(p.corner(0, 5, 65537)));
        Check.due("a line has no area", p.run(1, 8), 0);
        p.board();
        Check.yes("corner at both ends", p.corner(1, 65536, 0));
        Check.yes("corner at both ends", p.corner(1, 0, 65536));
    }

    private static void runChooses() {
        ran("most copies", sixteen(), 1, 8, "0/0x3 0/0x3 0/1x5 0/1x5");
        ran("most copies of few rows", sixteen(), 1, 3, "0/1x5 0/1x5 0/1x5");
        ran("most copies of one row", sixteen(), 1, 1, "0/1x5");
        ran("no rows", sixteen(), 1, 0, "");
        ran("no boards", sixteen(), 0, 8, "");
        ran("more boards told than there are", sixteen(), 4, 8, "0/0x3 0/0x3 0/1x5 0/1x5");

        PanelForms fewest = new PanelForms(100, 60);
        addBox(fewest, 50, 20);
        addBox(fewest, 16, 60);
        ran("fewest rows of the same copies", fewest, 2, 8, "1/0x6");
        ran("only the first boards", fewest, 1, 8, "0/0x2 0/0x2 0/0x2");

        PanelForms square = new PanelForms(20, 20);
        addBox(square, 10, 10);
        addBox(square, 10, 10);
        ran("the lowest board, as it is ahead of turned", square, 2, 8, "0/0x2 0/0x2");

        PanelForms mixed = new PanelForms(30, 30);
        addBox(mixed, 15, 20);
        addBox(mixed, 30, 10);
        addBox(mixed, 10, 10);
        ran("rows in the order of boards", mixed, 3, 8, "2/0x3 2/0x3 2/0x3");
        mixed.wants(2, 3);
        ran("of equal ones the one with the lowest first row", mixed, 3, 8, "0/0x2 2/0x3");

        PanelForms again = sixteen();
        Check.due("first run", again.run(1, 8), 16);
        Check.due("copies of the run before are gone", again.run(1, 1), 5);
        Check.index("copies of the run before are gone", () -> again.at(5, 0));
        Check.due("scores of the run before are gone", again.score(1, 0), 30);
        Check.index("scores of the run before are gone", () -> again.score(2, 0));
    }

    private static void runFits() {
        PanelForms tiny = new PanelForms(65536, 65536);
        addBox(tiny, 1, 1);
        Check.due("at most 20 in a row", tiny.run(1, 1), 20);
        Check.due("at most 8 rows", tiny.run(1, 8), 160);
        Check.due("the last copy", tiny.at(159, 1), 19);
        Check.due("the last row", tiny.at(159, 2), 7);

        PanelForms tight = new PanelForms(34, 20);
        addBox(tight, 10, 20);
        tight.gap(2);
        Check.due("gaps only between copies", tight.run(1, 8), 3);
        tight.gap(3);
        Check.due("one gap too wide", tight.run(1, 8), 2);
        tight.gap(65536);
        Check.due("no room for a gap", tight.run(1, 8), 1);

        PanelForms steep = new PanelForms(10, 32);
        addBox(steep, 10, 10);
        steep.gap(1);
        Check.due("gaps only between rows", steep.run(1, 8), 3);
        steep.rail(3, 1);
        Check.due("the high rail in the way", steep.run(1, 8), 2);

        PanelForms narrow = new PanelForms(10, 10);
        addBox(narrow, 1, 1);
        narrow.rail(0, 65536);
        narrow.rail(2, 65536);
        narrow.gap(65536);
        Check.due("rails wider than the panel", narrow.run(1, 8), 0);
        narrow.rail(0, 0);
        narrow.rail(2, 0);
        narrow.rail(1, 6);
        narrow.rail(3, 4);
        Check.due("rails as high as the panel", narrow.run(1, 8), 0);
        narrow.rail(3, 3);
        Check.due("room for one between the rails", narrow.run(1, 8), 1);

        PanelForms away = new PanelForms(10, 10);
        away.board();
        away.corner(0, 60000, 60000);
        away.corner(0, 60005, 60005);
        Check.due("only the box's size counts", away.run(1, 8), 4);
    }

    private static void runWanted() {
        PanelForms p = sixteen();
        p.wants(0, 4);
        ran("no more than wanted, in the fewest rows", p, 1, 8, "0/1x4");
        p.wants(0, 6);
        ran("no row without a copy", p, 1, 8, "0/0x3 0/0x3");
        p.wants(0, 7);
        ran("first rows are full ones", p, 1, 8, "0/0x3 0/1x4");
        p.wants(0, 0);
        ran("none wanted", p, 1, 8, "");

        PanelForms both = new PanelForms(100, 100);
        addBox(both, 30, 20);
        addBox(both, 100, 1);
        both.wants(0, 3);
        both.rail(3, 1);
        ran("each row with a copy", both, 2, 8, "0/0x3 1/0x1 1/0x1 1/0x1 1/0x1 1/0x1 1/0x1 1/0x1");
        both.wants(1, 1);
        ran("wanted of each board", both, 2, 8, "0/0x3 1/0x1");
    }

    private static void runWrong() {
        PanelForms p = sixteen();
        p.run(1, 4);
        p.bad(2, true);
        Check.argument("boards -1", () -> p.run(-1, 1));
        Check.argument("boards 5", () -> p.run(5, 1));
        Check.argument("rows -1", () -> p.run(1, -1));
        Check.argument("rows 9", () -> p.run(1, 9));
        Check.argument("rows that are 1 only as an int", () -> p.run(1, (1L << 32) + 1));
        Check.due("a wrong run leaves the copies", p.at(15, 0), 0);
        Check.due("a wrong run leaves the bad ones", p.order(15), 2);
        Check.yes("a wrong run leaves what was proved", p.proved());
        p.run(1, 4);
        Check.due("no copy is bad behind a run", p.order(15), 15);
        Check.yes("no copy is bad behind a run", p.bad(2, true));
    }

    private static void at() {
        PanelForms p = sixteen();
        addBox(p, 1, 2);
        p.wants(1, 0);
        p.rail(0, 2);
        p.rail(1, 4);
        p.gap(1);
        // 98 by 96: three rows turned (30 * 3 + 2) hold 4 each, rows as they are 3 each.
        Check.due("copies", p.run(2, 8), 13);
        long[][] want = {
            {0, 2, 4, 0, 30, 20}, {0, 33, 4, 0, 30, 20}, {0, 64, 4, 0, 30, 20},
            {0, 2, 25, 0, 30, 20}, {0, 33, 25, 0, 30, 20}, {0, 64, 25, 0, 30, 20},
            {0, 2, 46, 0, 30, 20}, {0, 33, 46, 0, 30, 20}, {0, 64, 46, 0, 30, 20},
            {0, 2, 67, 1, 20, 30}, {0, 23, 67, 1, 20, 30}, {0, 44, 67, 1, 20, 30}, {0, 65, 67, 1, 20, 30},
        };
        for (int round = 0; round < 2; round++) {
            for (int c = 0; c < want.length; c++) {
                for (int what = 0; what < 6; what++) {
                    Check.due("at " + c + " " + what, p.at(c, what), want[c][what]);
                }
            }
            // What comes behind the run does not move its copies.
            p.corner(0, 60, 70);
            p.rail(0, 50);
            p.rail(1, 50);
            p.gap(9);
            p.wants(0, 1);
        }
        Check.index("copy -1", () -> p.at(-1, 0));
        Check.index("copy 13", () -> p.at(13, 0));
        Check.index("what -1", () -> p.at(0, -1));
        Check.index("what 6", () -> p.at(0, 6));
        Check.index("far out", () -> p.at(Integer.MAX_VALUE, Integer.MIN_VALUE));

        PanelForms second = new PanelForms(10, 10);
        second.board();
        addBox(second, 10, 4);
        Check.due("the second board's copies", second.run(2, 8), 2);
        Check.due("the second board's number", second.at(1, 0), 1);
        Check.due("the second board's turn, of one row", second.at(1, 3), 1);
    }

    private static void proved() {
        PanelForms p = sixteen();
        Check.no("proved without a run", p.proved());
        p.run(1, 3);
        Check.no("one row more holds more", p.proved());
        p.run(1, 4);
        Check.yes("one row more holds no more", p.proved());
        p.run(1, 0);
        Check.no("one row holds more than none", p.proved());
        p.run(1, 8);
        p.board();
        Check.yes("a board made behind the run", p.proved());
        p.run(1, 8);
        Check.no("a board that was not looked at", p.proved());
        p.run(2, 8);
        Check.yes("all boards looked at", p.proved());
        p.run(4, 8);
        Check.yes("more than all boards looked at", p.proved());

        PanelForms tiny = new PanelForms(65536, 9);
        addBox(tiny, 65536, 1);
        tiny.run(1, 8);
        Check.no("a ninth row would hold more", tiny.proved());
        tiny.rail(1, 1);
        Check.no("nothing changes without a run", tiny.proved());
        tiny.run(1, 8);
        Check.yes("no room for a ninth row", tiny.proved());

        PanelForms empty = new PanelForms(5, 5);
        empty.run(0, 0);
        Check.yes("no boards, no rows", empty.proved());

        PanelForms two = new PanelForms(30, 29);
        addBox(two, 16, 20);
        addBox(two, 30, 9);
        two.run(2, 1);
        Check.no("a second row holds more", two.proved());
        two.run(2, 2);
        Check.no("a third row holds more", two.proved());
        two.run(2, 3);
        Check.yes("a fourth row holds no more", two.proved());
    }

    private static void gap() {
        PanelForms p = new PanelForms(10, 10);
        Check.yes("gap 5", p.gap(5));
        Check.no("gap 5 again", p.gap(5));
        Check.yes("gap 65536", p.gap(65536));
        Check.argument("gap 65537", () -> Check.one(p.gap(65537)));
        Check.argument("gap -1", () -> Check.one(p.gap(-1)));
        Check.argument("gap far out", () -> Check.one(p.gap(Long.MIN_VALUE)));
        Check.no("wrong ones change nothing", p.gap(65536));
        Check.yes("gap 0", p.gap(0));
    }

    private static void tab() {
        PanelForms p = new PanelForms(100, 100);
        addBox(p, 31, 21);
        p.wants(0, 1);
        p.rail(0, 3);
        p.rail(1, 4);
        p.run(1, 8);
        long[][] want = {{3, 14}, {18, 4}, {34, 14}, {18, 25}};
        for (int k = 0; k < 4; k++) {
            Check.due("tab x " + k, p.tab(0, k, 0), want[k][0]);
            Check.due("tab y " + k, p.tab(0, k, 1), want[k][1]);
        }
        p.corner(0, 99, 99);
        Check.due("the box is the run's", p.tab(0, 2, 0), 34);
        Check.index("copy -1", () -> p.tab(-1, 0, 0));
        Check.index("copy 1", () -> p.tab(1, 0, 0));
        Check.index("side -1", () -> p.tab(0, -1, 0));
        Check.index("side 4", () -> p.tab(0, 4, 0));
        Check.index("what -1", () -> p.tab(0, 0, -1));
        Check.index("what 2", () -> p.tab(0, 0, 2));
        p.part(0, 0, 0, 65536);
        Check.index("what 2 ahead of a part in the way", () -> p.tab(0, 0, 2));
        Check.state("a part in the way", () -> p.tab(0, 0, 0));
    }

    private static void tabOffParts() {
        PanelForms p = new PanelForms(100, 100);
        p.board();
        p.corner(0, 10, 10);
        p.corner(0, 40, 30);
        p.wants(0, 2);
        p.rail(0, 3);
        p.rail(1, 4);
        p.run(1, 8);
        Check.due("two in a row", p.at(1, 1), 33);
        // The left tab is 0 along x and 10 up from the box's corner; this disc's centre is 3 and 14.
        p.part(0, 13, 24, 5);
        Check.due("as near as its radius is not nearer", p.tab(0, 0, 0), 3);
        p.part(0, 13, 24, 6);
        Check.state("nearer than its radius", () -> p.tab(0, 0, 0));
        Check.state("nearer than its radius, for y", () -> p.tab(0, 0, 1));
        Check.state("in each copy", () -> p.tab(1, 0, 0));
        Check.due("other tabs are free", p.tab(0, 1, 0), 18);
        Check.due("other tabs are free", p.tab(0, 2, 1), 14);
        Check.due("other tabs are free", p.tab(0, 3, 1), 24);
        p.corner(0, 20, 0);
        Check.due("the box's corner now is lower: the parts go up", p.tab(0, 0, 0), 3);
        // Now the disc's centre is 3 along x and 24 up; the high tab is 15 and 20.
        p.part(0, 25, 30, 1);
        Check.due("the board is higher now: not at the high tab", p.tab(0, 3, 0), 18);
        p.part(0, 25, 20, 1);
        Check.state("a part right at the high tab", () -> p.tab(0, 3, 0));
    }

    private static void tabOffTurnedParts() {
        PanelForms p = new PanelForms(20, 30);
        p.board();
        p.corner(0, 10, 10);
        p.corner(0, 40, 30);
        Check.due("one copy", p.run(1, 8), 1);
        Check.due("it is turned", p.at(0, 3), 1);
        // Told from the box's corner (5, 2) goes to (20 - 2, 5); the left tab is (0, 15), the low one (10, 0).
        p.part(0, 25, 30, 1);
        Check.state("what was high is left", () -> p.tab(0, 0, 0));
        Check.due("not low", p.tab(0, 1, 0), 10);
        p.part(0, 10, 20, 1);
        Check.state("what was left is low", () -> p.tab(0, 1, 0));
        Check.due("not right", p.tab(0, 2, 0), 20);
        p.part(0, 25, 10, 1);
        Check.state("what was low is right", () -> p.tab(0, 2, 0));
        Check.due("not high", p.tab(0, 3, 1), 30);
        p.part(0, 40, 20, 1);
        Check.state("what was right is high", () -> p.tab(0, 3, 0));
        // The box is now 25 high: all parts go 5 to the right.
        p.corner(0, 10, 35);
        Check.due("higher now: free", p.tab(0, 0, 1), 15);
        Check.due("higher now: free", p.tab(0, 1, 1), 0);
        p.part(0, 25, 35, 1);
        Check.state("what is high now is left", () -> p.tab(0, 0, 1));
    }

    private static void score() {
        PanelForms p = sixteen();
        p.run(1, 8);
        long[][] want = {{0, 3}, {20, 6}, {40, 8}, {70, 10}, {100, 5}};
        for (int k = 0; k < want.length; k++) {
            Check.due("score y " + k, p.score(k, 0), want[k][0]);
            Check.due("score boxes " + k, p.score(k, 1), want[k][1]);
        }
        Check.index("score 5", () -> p.score(5, 0));
        Check.index("score -1", () -> p.score(-1, 0));
        Check.index("score what -1", () -> p.score(0, -1));
        Check.index("score what 2", () -> p.score(0, 2));
        p.gap(5);
        p.rail(1, 3);
        Check.due("scores are the run's", p.score(1, 0), 20);
        // 97 high: rows as they are need 20, turned ones 30, with gaps of 5.
        p.wants(0, 8);
        Check.due("copies", p.run(1, 8), 8);
        Check.same("rows", rows(p, 8), "0/1x4 0/1x4");
        long[][] apart = {{3, 4}, {33, 4}, {38, 4}, {68, 4}};
        for (int k = 0; k < apart.length; k++) {
            Check.due("score y apart " + k, p.score(k, 0), apart[k][0]);
            Check.due("score boxes apart " + k, p.score(k, 1), apart[k][1]);
        }
        Check.index("score 4", () -> p.score(4, 0));
        PanelForms many = new PanelForms(65536, 65536);
        addBox(many, 1, 1);
        many.gap(1);
        many.run(1, 8);
        Check.due("the last of 16 scores", many.score(15, 0), 15);
        Check.due("the boxes of the last of 16 scores", many.score(15, 1), 20);
        Check.index("a score behind it", () -> many.score(16, 0));
    }

    private static void part() {
        PanelForms p = new PanelForms(10, 10);
        p.board();
        Check.index("part of board 1", () -> Check.one(p.part(1, 0, 0, 1)));
        Check.index("part of board -1", () -> Check.one(p.part(-1, 0, 0, 1)));
        Check.index("no board ahead of no radius", () -> Check.one(p.part(1, 0, 0, 0)));
        Check.argument("part x -1", () -> Check.one(p.part(0, -1, 0, 1)));
        Check.argument("part x 65537", () -> Check.one(p.part(0, 65537, 0, 1)));
        Check.argument("part y -1", () -> Check.one(p.part(0, 0, -1, 1)));
        Check.argument("part y 65537", () -> Check.one(p.part(0, 0, 65537, 1)));
        Check.argument("part r 0", () -> Check.one(p.part(0, 0, 0, 0)));
        Check.argument("part r -1", () -> Check.one(p.part(0, 0, 0, -1)));
        Check.argument("part r 65537", () -> Check.one(p.part(0, 0, 0, 65537)));
        for (int n = 0; n < 10; n++) {
            Check.yes("part " + n, p.part(0, n == 9 ? 65536 : 0, n == 9 ? 65536 : 0, n == 9 ? 65536 : 1));
        }
        Check.no("an eleventh part", p.part(0, 5, 0, 65536));
        Check.argument("an eleventh without radius", () -> Check.one(p.part(0, 5, 0, 0)));
        p.board();
        Check.yes("each board has its own", p.part(1, 0, 0, 65536));
        p.corner(0, 0, 0);
        p.corner(0, 10, 10);
        p.run(1, 1);
        Check.due("the refused part is not there", p.tab(0, 1, 0), 5);
    }

    private static void waste() {
        PanelForms p = sixteen();
        Check.due("nothing used: above", p.waste(0), 1);
        p.run(1, 8);
        Check.due("above", p.waste(0), 1);
        Check.due("below", p.waste(1), 25);
        Check.index("part -1", () -> p.waste(-1));
        Check.index("part 2", () -> p.waste(2));
        // Now a triangle with the left side of 20 and 30 to the right is cut off: 300 are left of 600.
        p.corner(0, 30, 10);
        Check.due("as the outline is now: above", p.waste(0), 13);
        Check.due("as the outline is now: below", p.waste(1), 25);
        p.bad(0, true);
        Check.due("bad ones count too", p.waste(0), 13);

        PanelForms half = new PanelForms(5, 1);
        half.board();
        half.corner(0, 0, 0);
        half.corner(0, 0, 1);
        half.corner(0, 1, 0);
        half.wants(0, 1);
        half.run(1, 8);
        Check.due("half a square off 5: above", half.waste(0), 9);
        Check.due("half a square off 5: below", half.waste(1), 10);

        PanelForms line = new PanelForms(7, 7);
        line.board();
        line.corner(0, 0, 0);
        line.corner(0, 7, 7);
        Check.due("two corners have a box", line.run(1, 8), 1);
        Check.due("but no area: above", line.waste(0), 1);
        Check.due("but no area: below", line.waste(1), 1);

        // The document names no least fraction: what is taken off may be more than there is.
        PanelForms grown = new PanelForms(10, 10);
        addBox(grown, 5, 5);
        grown.run(1, 8);
        Check.due("nothing left: above", grown.waste(0), 0);
        Check.due("nothing left: below", grown.waste(1), 1);
        grown.corner(0, 0, 15);
        Check.due("a line more adds no area", grown.waste(0), 0);
        grown.corner(0, 20, 15);
        // By the ring 250 / 2 each, of four.
        Check.due("outlines grown over the panel: above", grown.waste(0), -4);
        Check.due("outlines grown over the panel: below", grown.waste(1), 1);

        PanelForms large = new PanelForms(65536, 65536);
        addBox(large, 1, 1);
        large.wants(0, 1);
        large.run(1, 1);
        Check.due("a large panel: above", large.waste(0), 65536L * 65536L - 1);
        Check.due("a large panel: below", large.waste(1), 65536L * 65536L);
    }

    private static void mill() {
        PanelForms p = sixteen();
        p.run(1, 8);
        p.radius(3);
        long[][] first = {{-3, -3}, {33, -3}, {33, 23}, {-3, 23}};
        long[][] last = {{77, 67}, {103, 67}, {103, 103}, {77, 103}};
        for (int k = 0; k < 4; k++) {
            for (int axis = 0; axis < 2; axis++) {
                Check.due("mill " + k, p.mill(k, axis), first[k][axis]);
                Check.due("mill of the last " + k, p.mill(60 + k, axis), last[k][axis]);
            }
        }
        p.bad(0, true);
        Check.due("bad ones come last", p.mill(0, 0), 27);
        Check.due("bad ones come last", p.mill(63, 1), 23);
        Check.due("bad ones come last", p.mill(56, 0), 77);
        p.radius(0);
        Check.due("the radius is that of now", p.mill(0, 0), 30);
        Check.index("mill -1", () -> p.mill(-1, 0));
        Check.index("mill -4", () -> p.mill(-4, 0));
        Check.index("mill 64", () -> p.mill(64, 0));
        Check.index("axis -1", () -> p.mill(0, -1));
        Check.index("axis 2", () -> p.mill(0, 2));
        Check.index("far out", () -> p.mill(Integer.MIN_VALUE, 0));
        Check.index("far out", () -> p.mill(Integer.MAX_VALUE, 1));
    }

    private static void radius() {
        PanelForms p = new PanelForms(10, 10);
        Check.yes("radius 5", p.radius(5));
        Check.no("radius 5 again", p.radius(5));
        Check.yes("radius 65536", p.radius(65536));
        Check.argument("radius 65537", () -> Check.one(p.radius(65537)));
        Check.argument("radius -1", () -> Check.one(p.radius(-1)));
        Check.no("wrong ones change nothing", p.radius(65536));
        Check.yes("radius 0", p.radius(0));
    }

    private static void bad() {
        PanelForms p = sixteen();
        p.run(1, 8);
        Check.no("not bad at first", p.bad(3, false));
        Check.yes("bad now", p.bad(3, true));
        Check.no("bad before", p.bad(3, true));
        Check.yes("good again", p.bad(3, false));
        Check.index("copy -1", () -> Check.one(p.bad(-1, true)));
        Check.index("copy 16", () -> Check.one(p.bad(16, true)));
        Check.yes("the last one", p.bad(15, true));
    }

    private static void rail() {
        PanelForms p = new PanelForms(100, 100);
        for (int s = 0; s < 4; s++) {
            int side = s;
            Check.yes("rail " + side, p.rail(side, 10 + side));
            Check.no("rail again " + side, p.rail(side, 10 + side));
            Check.argument("rail -1", () -> Check.one(p.rail(side, -1)));
            Check.argument("rail 65537", () -> Check.one(p.rail(side, 65537)));
            Check.no("wrong ones change nothing " + side, p.rail(side, 10 + side));
        }
        Check.index("side -1", () -> Check.one(p.rail(-1, 0)));
        Check.index("side 4", () -> Check.one(p.rail(4, 0)));
        Check.index("no side ahead of no rail", () -> Check.one(p.rail(4, -1)));
        // Between the rails there are 100 - 10 - 12 by 100 - 11 - 13.
        addBox(p, 78, 76);
        Check.due("just fits", p.run(1, 8), 1);
        Check.due("at the left rail", p.at(0, 1), 10);
        Check.due("at the low rail", p.at(0, 2), 11);
        for (int side = 0; side < 4; side++) {
            p.rail(side, 11 + side);
            Check.due("one wider: does not fit", p.run(1, 8), 0);
            p.rail(side, 10 + side);
        }
        Check.yes("the widest", p.rail(3, 65536));
    }

    private static void overlaps() {
        PanelForms p = sixteen();
        Check.no("without copies", p.overlaps());
        p.run(1, 8);
        Check.no("with copies", p.overlaps());
        p.corner(0, 90, 90);
        p.gap(7);
        Check.no("with copies of a board that has grown since", p.overlaps());
    }

    private static void order() {
        PanelForms p = sixteen();
        p.run(1, 1);
        orderIs(p, 0, 1, 2, 3, 4);
        p.bad(3, true);
        p.bad(0, true);
        orderIs(p, 1, 2, 4, 0, 3);
        p.bad(3, false);
        orderIs(p, 1, 2, 3, 4, 0);
        Check.due("order -1", p.order(-1), -1);
        Check.due("order 5", p.order(5), -1);
        Check.due("order far out", p.order(Integer.MIN_VALUE), -1);
        Check.due("order far out", p.order(Integer.MAX_VALUE), -1);
        p.run(1, 1);
        orderIs(p, 0, 1, 2, 3, 4);
    }

    private static void orderIs(PanelForms p, int... want) {
        for (int k = 0; k < want.length; k++) {
            Check.due("order " + k, p.order(k), want[k]);
        }
    }

    private static void wants() {
        PanelForms p = new PanelForms(10, 10);
        p.board();
        Check.no("200 at first", p.wants(0, 200));
        Check.yes("199", p.wants(0, 199));
        Check.yes("0", p.wants(0, 0));
        Check.no("0 again", p.wants(0, 0));
        Check.argument("-1", () -> Check.one(p.wants(0, -1)));
        Check.argument("201", () -> Check.one(p.wants(0, 201)));
        Check.index("board -1", () -> Check.one(p.wants(-1, 1)));
        Check.index("board 1", () -> Check.one(p.wants(1, 1)));
        Check.index("no board ahead of no number", () -> Check.one(p.wants(1, 201)));
        Check.no("wrong ones change nothing", p.wants(0, 0));
        p.board();
        Check.no("each board has its own", p.wants(1, 200));
    }
}
