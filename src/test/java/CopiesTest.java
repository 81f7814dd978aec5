/** What is told of the copies, sentence by sentence: promises 8, 9, 11, 12, 14 and 17. */
public final class CopiesTest {
    public static void main(String[] args) {
        Sentences.askAll(CopiesTest.class);
    }

    /** One copy, 31 by 21, as it is, at (3, 4). */
    private static PanelForms oneOdd() {
        PanelForms p = Panels.withBox(100, 100, 31, 21);
        p.wants(0, 1);
        p.rail(0, 3);
        p.rail(1, 4);
        p.run(1, 8);
        return p;
    }

    /** Two copies, 30 by 20, as they are, at (3, 4) and (33, 4), of a board whose box begins at (10, 10). */
    private static PanelForms twoAway() {
        PanelForms p = new PanelForms(100, 100);
        Panels.addBoard(p, new long[][] {{10, 10}, {40, 30}});
        p.wants(0, 2);
        p.rail(0, 3);
        p.rail(1, 4);
        p.run(1, 8);
        return p;
    }

    /** One copy of the same board, turned, at (0, 0). */
    private static PanelForms oneTurned() {
        PanelForms p = new PanelForms(20, 30);
        Panels.addBoard(p, new long[][] {{10, 10}, {40, 30}});
        p.run(1, 8);
        return p;
    }

    @Says(in = "Promise 8", sentence = "Where a copy's TAB k is, x (what 0) or y (1): "
        + "in the middle (cut down) of the left (0), low (1), right (2), high (3) side of its BOX")
    static void tabsInTheMiddleOfSides() {
        PanelForms p = oneOdd();
        long[][] want = {{3, 14}, {18, 4}, {34, 14}, {18, 25}};
        for (int k = 0; k < 4; k++) {
            Check.due("x of tab " + k, p.tab(0, k, 0), want[k][0]);
            Check.due("y of tab " + k, p.tab(0, k, 1), want[k][1]);
        }
        p.corner(0, 99, 99);
        Check.due("the box is that of the run", p.tab(0, 2, 0), 34);
        Check.due("the box is that of the run", p.tab(0, 1, 0), 18);
        PanelForms least = Panels.withBox(2, 1, 1, 1);
        least.run(1, 1);
        Check.due("half of 1 is cut down: x", least.tab(1, 1, 0), 1);
        Check.due("half of 1 is cut down: y", least.tab(1, 2, 1), 0);
        PanelForms greatest = Panels.withBox(65536, 65536, 65536, 65536);
        greatest.run(1, 1);
        Check.due("the greatest box", greatest.tab(0, 2, 0) + greatest.tab(0, 2, 1), 65536 + 32768);
    }

    @Says(in = "Promise 8", sentence = "in the middle (cut down) of the left (0), low (1), right (2), "
        + "high (3) side of its BOX")
    static void tabsOfTurnedCopies() {
        PanelForms p = oneTurned();
        long[][] want = {{0, 15}, {10, 0}, {20, 15}, {10, 30}};
        for (int k = 0; k < 4; k++) {
            Check.due("x of tab " + k, p.tab(0, k, 0), want[k][0]);
            Check.due("y of tab " + k, p.tab(0, k, 1), want[k][1]);
        }
    }

    @Says(in = "Promise 8", sentence = "IndexOutOfBoundsException, when there is no such copy, side or what")
    static void tabOfNoCopySideOrWhat() {
        PanelForms p = oneOdd();
        // A part over all of the board: what is out of bounds comes ahead of it.
        for (int round = 0; round < 2; round++) {
            Check.index("copy -1", () -> p.tab(-1, 0, 0));
            Check.index("copy 1", () -> p.tab(1, 0, 0));
            Check.index("side -1", () -> p.tab(0, -1, 0));
            Check.index("side 4", () -> p.tab(0, 4, 0));
            Check.index("what -1", () -> p.tab(0, 0, -1));
            Check.index("what 2", () -> p.tab(0, 0, 2));
            for (int far : Panels.FAR_OUT) {
                Check.index("copy " + far, () -> p.tab(far, 0, 0));
                Check.index("side " + far, () -> p.tab(0, far, 0));
                Check.index("what " + far, () -> p.tab(0, 0, far));
            }
            p.part(0, 0, 0, 65536);
        }
        Check.state("all in bounds", () -> p.tab(0, 0, 0));
    }

    @Says(in = "Promise 8", sentence = "IllegalStateException, when a PART of the board")
    static void tabOffAPart() {
        PanelForms p = twoAway();
        p.board();
        p.part(1, 10, 20, 65536);
        Check.due("a part of another board", p.tab(0, 0, 0), 3);
        // The left tab is 0 along x and 10 up from the box's corner.
        p.part(0, 10, 20, 1);
        for (int copy = 0; copy < 2; copy++) {
            int c = copy;
            Check.state("right at the tab, for x", () -> p.tab(c, 0, 0));
            Check.state("right at the tab, for y", () -> p.tab(c, 0, 1));
            Check.due("the low tab is free", p.tab(c, 1, 1), 4);
            Check.due("the right tab is free", p.tab(c, 2, 1), 14);
            Check.due("the high tab is free", p.tab(c, 3, 1), 24);
        }
        p.run(1, 8);
        Check.state("it stays behind a run", () -> p.tab(0, 0, 0));
    }

    @Says(in = "Promise 8", sentence = "is nearer to that place than its radius")
    static void tabAtTheRimOfAPart() {
        PanelForms p = twoAway();
        p.part(0, 13, 24, 5);
        Check.due("3 along x and 4 up: as near as its radius is not nearer", p.tab(0, 0, 0), 3);
        p.part(0, 11, 20, 1);
        Check.due("1 along x", p.tab(0, 0, 0), 3);
        p.part(0, 10, 19, 1);
        Check.due("1 down", p.tab(0, 0, 0), 3);
        p.part(0, 13, 24, 6);
        Check.state("nearer than its radius", () -> p.tab(0, 0, 0));
        PanelForms left = twoAway();
        left.part(0, 7, 16, 5);
        Check.due("off the box on the other side: as near as its radius", left.tab(0, 0, 0), 3);
        left.part(0, 7, 16, 6);
        Check.state("off the box on the other side: nearer", () -> left.tab(0, 0, 0));
    }

    @Says(in = "Promise 8", sentence = "is nearer to that place than its radius")
    static void tabFarFromLargeParts() {
        PanelForms p = Panels.withBox(65536, 65536, 65536, 65536);
        p.run(1, 1);
        p.part(0, 65536, 32768, 65536);
        Check.due("65,536 along x from the left tab: not nearer", p.tab(0, 0, 0), 0);
        Check.state("32,768 along x from the low tab, and as much up", () -> p.tab(0, 1, 0));
        PanelForms q = Panels.withBox(65536, 65536, 65536, 65536);
        q.run(1, 1);
        q.part(0, 65535, 32768, 65536);
        Check.state("65,535 along x from the left tab: nearer", () -> q.tab(0, 0, 0));
        PanelForms r = Panels.withBox(65536, 65536, 1, 1);
        r.run(1, 1);
        r.part(0, 65536, 65536, 65536);
        Check.due("farther than any radius, its square is more than an int holds", r.tab(0, 0, 0), 0);
    }

    @Says(in = "Promise 8", sentence = "from the BOX's corner as that is now")
    static void partsFromTheCornerNow() {
        PanelForms p = twoAway();
        p.part(0, 10, 20, 1);
        Check.state("at the left tab", () -> p.tab(0, 0, 0));
        p.corner(0, 20, 0);
        Check.due("the corner is 10 lower now: the part is 10 higher", p.tab(0, 0, 0), 3);
        p.part(0, 10, 10, 1);
        Check.state("what is 10 up now", () -> p.tab(0, 0, 0));
        p.corner(0, 5, 5);
        Check.due("the corner is 5 more to the left now", p.tab(0, 0, 0), 3);
        p.part(0, 20, 20, 1);
        Check.state("the high tab is still 15 along x and 20 up", () -> p.tab(0, 3, 0));
        p.corner(0, 65536, 65536);
        Check.state("a greater height moves nothing as it is", () -> p.tab(0, 3, 0));
    }

    @Says(in = "Promise 8", sentence = "for turned ones what was along x goes up, what was up goes to the left")
    static void partsOfTurnedCopies() {
        PanelForms p = oneTurned();
        // The middles of the board's high, left, low and right side come to the copy's left, low, right and high one.
        long[][] middles = {{25, 30}, {10, 20}, {25, 10}, {40, 20}};
        for (int k = 0; k < 4; k++) {
            int side = k;
            Check.due("side " + k + " is still free", p.tab(0, k, 0), new long[] {0, 10, 20, 10}[k]);
            p.part(0, middles[k][0], middles[k][1], 1);
            Check.state("side " + k, () -> p.tab(0, side, 0));
        }
        PanelForms odd = new PanelForms(21, 31);
        Panels.addBoard(odd, new long[][] {{0, 0}, {31, 21}});
        odd.run(1, 8);
        odd.part(0, 15, 21, 1);
        Check.state("15 along x goes 15 up", () -> odd.tab(0, 0, 0));
        odd.part(0, 0, 10, 1);
        Check.due("10 up goes 10 to the left, from 21 on, so to 11: 1 off the low tab", odd.tab(0, 1, 0), 10);
        odd.part(0, 0, 11, 1);
        Check.state("11 up goes to 10", () -> odd.tab(0, 1, 0));
    }

    @Says(in = "Promise 8", sentence = "from the BOX's height now on")
    static void partsOfTurnedCopiesFromTheHeightNow() {
        PanelForms p = oneTurned();
        p.part(0, 25, 30, 1);
        Check.state("at the left tab", () -> p.tab(0, 0, 1));
        p.corner(0, 10, 35);
        Check.due("5 higher now: 5 more to the right", p.tab(0, 0, 1), 15);
        p.part(0, 25, 35, 1);
        Check.state("what is highest now", () -> p.tab(0, 0, 1));
        p.corner(0, 10, 4);
        Check.state("lower too: the corner and the height make up for each other", () -> p.tab(0, 0, 1));
        p.corner(0, 60, 4);
        Check.state("wider to the right: nothing moves", () -> p.tab(0, 0, 1));
        p.corner(0, 8, 4);
        Check.due("wider to the left: 2 more up", p.tab(0, 0, 1), 15);
    }

    private static void scoresAre(PanelForms p, long[][] want) {
        for (int k = 0; k < want.length; k++) {
            Check.due("y of score " + k, p.score(k, 0), want[k][0]);
            Check.due("boxes at score " + k, p.score(k, 1), want[k][1]);
        }
        Check.index("a score behind the last", () -> p.score(want.length, 0));
        Check.index("boxes behind the last", () -> p.score(want.length, 1));
    }

    @Says(in = "Promise 9", sentence = "The k-th SCORE, a line over the whole PANEL along x: "
        + "its y (what 0), rising, where BOXES of a ROW begin or end, each y once")
    static void scoresWhereRowsMeet() {
        PanelForms p = Panels.sixteen();
        p.run(1, 8);
        scoresAre(p, new long[][] {{0, 3}, {20, 6}, {40, 8}, {70, 10}, {100, 5}});
        p.run(1, 1);
        scoresAre(p, new long[][] {{0, 5}, {30, 5}});
    }

    @Says(in = "Promise 9", sentence = "its y (what 0), rising, where BOXES of a ROW begin or end, each y once")
    static void scoresWhereRowsAreApart() {
        PanelForms p = Panels.sixteen();
        p.gap(5);
        p.rail(1, 3);
        p.wants(0, 8);
        p.run(1, 8);
        scoresAre(p, new long[][] {{3, 4}, {33, 4}, {38, 4}, {68, 4}});
        p.gap(0);
        p.rail(1, 0);
        p.corner(0, 50, 50);
        Check.due("they are those of the run", p.score(2, 0), 38);
        PanelForms most = Panels.withBox(65536, 65536, 1, 1);
        most.gap(1);
        most.run(1, 8);
        Check.due("the last of the most scores", most.score(15, 0), 15);
        Check.index("one behind the most scores", () -> most.score(16, 0));
    }

    @Says(in = "Promise 9", sentence = "how many BOXES begin or end there (1)")
    static void boxesAtAScore() {
        PanelForms p = Panels.withBox(3, 3, 1, 1);
        p.wants(0, 4);
        p.run(1, 8);
        scoresAre(p, new long[][] {{0, 3}, {1, 4}, {2, 1}});
        p.bad(0, true);
        Check.due("bad ones count too", p.score(0, 1), 3);
        PanelForms most = Panels.withBox(20, 8, 1, 1);
        most.run(1, 8);
        Check.due("forty between full rows", most.score(7, 1), 40);
        Check.due("twenty at the end", most.score(8, 1), 20);
    }

    @Says(in = "Promise 9", sentence = "IndexOutOfBoundsException, when there is none such, or what")
    static void noScoreOrWhat() {
        PanelForms p = Panels.sixteen();
        Check.index("without a run", () -> p.score(0, 0));
        p.run(1, 8);
        Check.index("score -1", () -> p.score(-1, 0));
        Check.index("score 5", () -> p.score(5, 0));
        Check.index("what -1", () -> p.score(0, -1));
        Check.index("what 2", () -> p.score(0, 2));
        for (int far : Panels.FAR_OUT) {
            Check.index("score " + far, () -> p.score(far, 0));
            Check.index("what " + far, () -> p.score(0, far));
        }
        p.run(1, 0);
        Check.index("without a copy", () -> p.score(0, 0));
    }

    private static void wasteIs(String what, PanelForms p, long above, long below) {
        Check.due(what + ": above", p.waste(0), above);
        Check.due(what + ": below", p.waste(1), below);
    }

    @Says(in = "Promise 11", sentence = "How much of the PANEL's area lies outside of the copies' outlines")
    static void wasteOutsideOfOutlines() {
        PanelForms p = Panels.sixteen();
        wasteIs("no copies", p, 1, 1);
        p.run(1, 8);
        wasteIs("sixteen", p, 1, 25);
        p.bad(0, true);
        wasteIs("bad ones count too", p, 1, 25);
        p.run(1, 1);
        wasteIs("five", p, 7, 10);
        p.rail(0, 9);
        p.gap(3);
        wasteIs("rails and gaps lie outside already", p, 7, 10);
        PanelForms full = Panels.withBox(7, 5, 7, 5);
        full.run(1, 1);
        wasteIs("nothing", full, 0, 1);
    }

    @Says(in = "Promise 11", sentence = "each outline's area by its corners in a ring, without sign")
    static void areaOfARing() {
        long[][] ring = {{0, 0}, {10, 0}, {10, 10}, {5, 3}, {0, 10}};
        PanelForms left = new PanelForms(10, 10);
        Panels.addBoard(left, ring);
        left.run(1, 1);
        wasteIs("65 of 100 inside, told to the left", left, 7, 20);
        PanelForms right = new PanelForms(10, 10);
        Panels.addBoard(right, new long[][] {ring[4], ring[3], ring[2], ring[1], ring[0]});
        right.run(1, 1);
        wasteIs("the same, told to the right", right, 7, 20);
        // From the last corner back to the first: without that side it would not be the same from each corner on.
        PanelForms other = new PanelForms(20, 20);
        Panels.addBoard(other, new long[][] {{5, 5}, {15, 7}, {9, 15}});
        other.wants(0, 1);
        other.run(1, 1);
        wasteIs("a triangle of 46 away from the corner", other, 177, 200);
        PanelForms line = new PanelForms(7, 7);
        Panels.addBoard(line, new long[][] {{0, 0}, {7, 7}});
        line.run(1, 8);
        wasteIs("two corners have no area", line, 1, 1);
        PanelForms bow = new PanelForms(4, 4);
        Panels.addBoard(bow, new long[][] {{0, 0}, {4, 4}, {4, 0}, {0, 4}});
        bow.run(1, 8);
        wasteIs("a bow's two halves make up for each other", bow, 1, 1);
        PanelForms twice = new PanelForms(20, 20);
        Panels.addBoard(twice, new long[][] {{0, 0}, {10, 0}, {10, 10}, {0, 10}, {0, 0}, {10, 0}, {10, 10}, {0, 10}});
        twice.wants(0, 1);
        twice.run(1, 1);
        wasteIs("a ring that goes round twice counts twice", twice, 1, 2);
    }

    @Says(in = "Promise 11", sentence = "as it is now")
    static void areaAsTheOutlineIsNow() {
        PanelForms p = Panels.sixteen();
        p.run(1, 8);
        p.corner(0, 30, 10);
        wasteIs("from the last corner a triangle is cut off: 300 are left of 600", p, 13, 25);
        PanelForms grown = Panels.withBox(10, 10, 5, 5);
        grown.run(1, 8);
        wasteIs("nothing left", grown, 0, 1);
        grown.corner(0, 0, 15);
        wasteIs("a line more adds no area", grown, 0, 1);
        // The document names no least fraction: what is taken off may be more than there is.
        grown.corner(0, 20, 15);
        wasteIs("four outlines of 125, grown over the panel", grown, -4, 1);
    }

    @Says(in = "Promise 11", sentence = "as a fraction in lowest terms: above (part 0), below (1)")
    static void wasteInLowestTerms() {
        PanelForms half = new PanelForms(5, 1);
        Panels.addBoard(half, new long[][] {{0, 0}, {0, 1}, {1, 0}});
        half.wants(0, 1);
        half.run(1, 8);
        wasteIs("half a square off 5", half, 9, 10);
        half.wants(0, 2);
        half.run(1, 8);
        wasteIs("a square off 5", half, 4, 5);
        half.wants(0, 5);
        half.run(1, 8);
        wasteIs("half of it", half, 1, 2);
        PanelForms large = Panels.withBox(65536, 65536, 1, 1);
        large.wants(0, 1);
        large.run(1, 1);
        wasteIs("one off the greatest panel", large, 65536L * 65536L - 1, 65536L * 65536L);
        PanelForms largest = new PanelForms(65536, 65536);
        Panels.addBoard(largest, new long[][] {{0, 0}, {0, 1}, {1, 0}});
        largest.wants(0, 1);
        largest.run(1, 1);
        wasteIs("half a one off it", largest, (1L << 33) - 1, 1L << 33);
        PanelForms least = Panels.withBox(1, 1, 1, 1);
        wasteIs("all of the least panel", least, 1, 1);
        least.run(1, 1);
        wasteIs("nothing of the least panel", least, 0, 1);
    }

    @Says(in = "Promise 11", sentence = "IndexOutOfBoundsException, for another part")
    static void wasteOfNoPart() {
        PanelForms p = Panels.sixteen();
        for (int round = 0; round < 2; round++) {
            Check.index("part -1", () -> p.waste(-1));
            Check.index("part 2", () -> p.waste(2));
            for (int far : Panels.FAR_OUT) {
                Check.index("part " + far, () -> p.waste(far));
            }
            p.run(1, 8);
        }
    }

    private static void wayIs(PanelForms p, int first, long[][] want) {
        for (int k = 0; k < want.length; k++) {
            Check.due("x of corner " + (first + k), p.mill(first + k, 0), want[k][0]);
            Check.due("y of corner " + (first + k), p.mill(first + k, 1), want[k][1]);
        }
    }

    @Says(in = "Promise 12", sentence = "The k-th corner of the mill's way, x (axis 0) or y (1): "
        + "around the BOXES in the order of cuts")
    static void wayInTheOrderOfCuts() {
        PanelForms p = Panels.withBox(3, 5, 1, 5);
        p.run(1, 8);
        p.bad(0, true);
        wayIs(p, 0, new long[][] {{1, 0}, {2, 0}, {2, 5}, {1, 5}, {2, 0}, {3, 0}, {3, 5}, {2, 5},
            {0, 0}, {1, 0}, {1, 5}, {0, 5}});
        p.bad(0, false);
        p.bad(1, true);
        wayIs(p, 0, new long[][] {{0, 0}, {1, 0}, {1, 5}, {0, 5}, {2, 0}, {3, 0}, {3, 5}, {2, 5},
            {1, 0}, {2, 0}, {2, 5}, {1, 5}});
        p.corner(0, 9, 9);
        Check.due("the boxes are those of the run", p.mill(5, 0), 3);
    }

    @Says(in = "Promise 12", sentence = "each grown by the tool's radius to all sides: "
        + "low left, low right, high right, high left")
    static void wayGrownByTheRadius() {
        PanelForms p = Panels.sixteen();
        p.run(1, 8);
        wayIs(p, 0, new long[][] {{0, 0}, {30, 0}, {30, 20}, {0, 20}});
        p.radius(3);
        wayIs(p, 0, new long[][] {{-3, -3}, {33, -3}, {33, 23}, {-3, 23}});
        wayIs(p, 60, new long[][] {{77, 67}, {103, 67}, {103, 103}, {77, 103}});
        p.radius(65536);
        wayIs(p, 60, new long[][] {{-65456, -65466}, {65636, -65466}, {65636, 65636}, {-65456, 65636}});
    }

    @Says(in = "Promise 12", sentence = "IndexOutOfBoundsException, when there is none such, or axis")
    static void noCornerOfTheWayOrAxis() {
        PanelForms p = Panels.sixteen();
        Check.index("without a run", () -> p.mill(0, 0));
        p.run(1, 8);
        for (int no : new int[] {-1, -2, -3, -4, -5, 64, 65}) {
            Check.index("corner " + no, () -> p.mill(no, 0));
            Check.index("corner " + no, () -> p.mill(no, 1));
        }
        Check.due("the last corner", p.mill(63, 1), 100);
        Check.index("axis -1", () -> p.mill(0, -1));
        Check.index("axis 2", () -> p.mill(63, 2));
        for (int far : Panels.FAR_OUT) {
            Check.index("corner " + far, () -> p.mill(far, 0));
            Check.index("axis " + far, () -> p.mill(0, far));
        }
        // Four times these is 0 or 4 as an int.
        Check.index("corner 2^30", () -> p.mill(1 << 30, 0));
        Check.index("corner 2^30 + 1", () -> p.mill((1 << 30) + 1, 0));
    }

    @Says(in = "Promise 14", sentence = "A copy is BAD, or not: whether it was otherwise")
    static void badTellsWhetherItWasOtherwise() {
        PanelForms p = Panels.sixteen();
        p.run(1, 8);
        for (int copy : new int[] {0, 3, 15}) {
            Check.no("not bad at first", p.bad(copy, false));
            Check.yes("bad", p.bad(copy, true));
            Check.no("bad again", p.bad(copy, true));
            Check.yes("not bad", p.bad(copy, false));
            Check.no("not bad again", p.bad(copy, false));
        }
        p.bad(4, true);
        Check.no("each copy by itself", p.bad(5, false));
        Check.due("bad ones stay copies", p.at(15, 0), 0);
    }

    @Says(in = "Promise 14", sentence = "IndexOutOfBoundsException, when there is no such copy")
    static void badOfNoCopy() {
        PanelForms p = Panels.sixteen();
        Check.index("without a run", () -> Check.one(p.bad(0, true)));
        p.run(1, 1);
        Check.index("copy -1", () -> Check.one(p.bad(-1, true)));
        Check.index("copy 5", () -> Check.one(p.bad(5, true)));
        Check.index("not bad either", () -> Check.one(p.bad(5, false)));
        for (int far : Panels.FAR_OUT) {
            Check.index("copy " + far, () -> Check.one(p.bad(far, true)));
        }
        p.run(1, 8);
        Check.no("a refused copy is not bad when it is there", p.bad(5, false));
        PanelForms most = Panels.withBox(20, 8, 1, 1);
        most.run(1, 8);
        Check.yes("the last of the most copies", most.bad(159, true));
        Check.index("one behind them", () -> Check.one(most.bad(160, true)));
        Panels.leavesAll("a bad copy that is none", q -> Check.one(q.bad(7, true)));
    }

    private static void orderIs(PanelForms p, int... want) {
        for (int k = 0; k < want.length; k++) {
            Check.due("cut " + k, p.order(k), want[k]);
        }
        Check.due("no cut behind the last", p.order(want.length), PanelForms.NONE);
    }

    @Says(in = "Promise 17", sentence = "The k-th copy to be cut: "
        + "first those that are not BAD, in their order, then the BAD ones")
    static void badCopiesAreCutLast() {
        PanelForms p = Panels.sixteen();
        p.run(1, 1);
        orderIs(p, 0, 1, 2, 3, 4);
        p.bad(3, true);
        orderIs(p, 0, 1, 2, 4, 3);
        p.bad(0, true);
        orderIs(p, 1, 2, 4, 0, 3);
        p.bad(3, false);
        orderIs(p, 1, 2, 3, 4, 0);
        for (int copy = 0; copy < 5; copy++) {
            p.bad(copy, true);
        }
        orderIs(p, 0, 1, 2, 3, 4);
        p.bad(4, false);
        orderIs(p, 4, 0, 1, 2, 3);
    }

    @Says(in = "Promise 17", sentence = "NONE, when there are not so many (or k is below 0)")
    static void noSuchCut() {
        PanelForms p = Panels.sixteen();
        Check.due("without a run", p.order(0), PanelForms.NONE);
        p.run(1, 1);
        p.bad(0, true);
        Check.due("the last", p.order(4), 0);
        Check.due("as many as there are", p.order(5), PanelForms.NONE);
        Check.due("one below 0", p.order(-1), PanelForms.NONE);
        for (int far : Panels.FAR_OUT) {
            Check.due("cut " + far, p.order(far), PanelForms.NONE);
        }
        PanelForms most = Panels.withBox(20, 8, 1, 1);
        most.run(1, 8);
        Check.due("the last of the most", most.order(159), 159);
        Check.due("one behind the most", most.order(160), PanelForms.NONE);
    }
}
