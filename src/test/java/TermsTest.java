/** The document's terms, sentence by sentence: above all what a run lays and what it may not. */
public final class TermsTest {
    public static void main(String[] args) {
        Sentences.askAll(TermsTest.class);
    }

    @Says(in = "What it is", sentence = "An object is used for at most 512 calls after it has been made")
    static void the512thCallStillAnswers() {
        PanelForms p = Panels.sixteen();
        int calls = 5;
        while (calls < 511) {
            p.run(calls % 5, calls % 9);
            calls++;
        }
        Check.due("the 512th call", p.run(1, 8), 16);
    }

    /** Of which size the panel is: a box as large fills it, a larger one does not fit, and its area is told. */
    private static void panelIs(long toldWidth, long toldHeight, long width, long height) {
        String size = width + " by " + height + ", told " + toldWidth + " by " + toldHeight;
        PanelForms full = new PanelForms(toldWidth, toldHeight);
        Panels.addBox(full, width, height);
        full.wants(0, 1);
        Check.due("a box fits on " + size, full.run(1, 1), 1);
        Check.due("and leaves nothing of " + size, full.waste(0), 0);
        PanelForms nearlyEmpty = new PanelForms(toldWidth, toldHeight);
        Panels.addBox(nearlyEmpty, 1, 1);
        nearlyEmpty.wants(0, 1);
        nearlyEmpty.run(1, 1);
        Check.due("the area of " + size, nearlyEmpty.waste(1), width * height);
        if (width < 65536 || height < 65536) {
            PanelForms small = new PanelForms(toldWidth, toldHeight);
            Panels.addBox(small, Math.min(width + 1, 65536), Math.min(height + 1, 65536));
            Check.due("a larger box does not fit on " + size, small.run(1, 1), 0);
        }
    }

    @Says(in = "Terms", sentence = "The PANEL is width by height, 1 .. 65,536 both")
    static void panelOfTheLeastAndGreatestLengths() {
        panelIs(1, 1, 1, 1);
        panelIs(1, 65536, 1, 65536);
        panelIs(65536, 1, 65536, 1);
        panelIs(65535, 65536, 65535, 65536);
        panelIs(65536, 65536, 65536, 65536);
    }

    @Says(in = "Terms", sentence = "what is told below is 1")
    static void panelToldTooSmall() {
        for (long told : new long[] {0, -1, -65536, Integer.MIN_VALUE, Long.MIN_VALUE}) {
            panelIs(told, 7, 1, 7);
            panelIs(7, told, 7, 1);
            panelIs(told, told, 1, 1);
        }
    }

    @Says(in = "Terms", sentence = "above 65,536")
    static void panelToldTooLarge() {
        for (long told : new long[] {65537, Integer.MAX_VALUE, 1L << 32, (1L << 32) + 3, Long.MAX_VALUE}) {
            panelIs(told, 7, 65536, 7);
            panelIs(7, told, 7, 65536);
            panelIs(told, told, 65536, 65536);
        }
    }

    @Says(in = "Terms", sentence = "BOARDS 0 .. 3")
    static void fourBoardsAreLookedAt() {
        PanelForms p = new PanelForms(4, 1);
        for (int n = 0; n < 5; n++) {
            p.board();
        }
        p.corner(3, 0, 0);
        p.corner(3, 2, 1);
        Panels.ran("the board 3", p, 4, 8, "3/0x2");
    }

    @Says(in = "Terms", sentence = "an outline of up to 12 CORNERS")
    static void twelfthCornerCountsTheNextDoesNot() {
        PanelForms p = new PanelForms(100, 100);
        p.board();
        for (int n = 0; n < 11; n++) {
            p.corner(0, 10, 10);
        }
        p.corner(0, 17, 19);
        p.corner(0, 90, 95);
        p.wants(0, 1);
        p.run(1, 1);
        Check.due("how wide", p.at(0, 4), 7);
        Check.due("how high", p.at(0, 5), 9);
    }

    @Says(in = "Terms", sentence = "CORNERS (0 .. 65,536)")
    static void cornersAtBothEnds() {
        PanelForms p = new PanelForms(65536, 65536);
        p.board();
        Check.yes("the greatest", p.corner(0, 65536, 65536));
        Check.yes("the least", p.corner(0, 0, 0));
        p.run(1, 1);
        Check.due("how wide", p.at(0, 4), 65536);
        Check.due("how high", p.at(0, 5), 65536);
    }

    @Says(in = "Terms", sentence = "its BOX is from the least to the greatest along x and along y")
    static void boxOfCornersInAnyOrder() {
        PanelForms p = new PanelForms(100, 100);
        Panels.addBoard(p, new long[][] {{45, 40}, {20, 60}, {30, 10}, {50, 90}, {33, 33}});
        p.wants(0, 1);
        p.run(1, 1);
        Check.due("from 20 to 50", p.at(0, 4), 30);
        Check.due("from 10 to 90", p.at(0, 5), 80);
        PanelForms away = new PanelForms(10, 10);
        Panels.addBoard(away, new long[][] {{65531, 60000}, {65536, 60005}});
        Check.due("only its size counts, not where it is", away.run(1, 8), 4);
        Check.due("its copies begin at the panel's corner", away.at(0, 1) + away.at(0, 2), 0);
    }

    @Says(in = "Terms", sentence = "a board counts when its BOX has an area")
    static void boardsWithoutAreaDoNotCount() {
        PanelForms p = new PanelForms(10, 10);
        p.board();
        Check.due("no corner", p.run(4, 8), 0);
        p.corner(0, 4, 4);
        Check.due("one corner", p.run(4, 8), 0);
        p.corner(0, 4, 4);
        Check.due("the same corner again", p.run(4, 8), 0);
        p.corner(0, 4, 8);
        Check.due("a line upwards", p.run(4, 8), 0);
        p.board();
        p.corner(1, 0, 3);
        p.corner(1, 5, 3);
        Check.due("a line along x", p.run(4, 8), 0);
        p.corner(0, 5, 4);
        Check.due("one wide: two rows of 10 as it is, two of 2 turned", p.run(4, 8), 24);
        p.wants(0, 0);
        Check.due("the other one still is a line", p.run(4, 8), 0);
        p.corner(1, 4, 4);
        Check.due("one high: two rows of 10 turned, none of 2 as it is", p.run(4, 8), 20);
        PanelForms line = new PanelForms(7, 7);
        Panels.addBoard(line, new long[][] {{0, 0}, {7, 7}});
        Check.due("a box with an area, an outline without", line.run(1, 8), 1);
    }

    @Says(in = "Terms", sentence = "A copy lies as it is (turn 0), or turned by a quarter (1): "
        + "its BOX is then as wide as it was high")
    static void turnedOnlyWhereItFitsSo() {
        PanelForms p = Panels.withBox(20, 30, 30, 20);
        Check.due("one copy", p.run(1, 8), 1);
        Check.due("turned", p.at(0, 3), 1);
        Check.due("as wide as it was high", p.at(0, 4), 20);
        Check.due("as high as it was wide", p.at(0, 5), 30);
        PanelForms q = Panels.withBox(30, 20, 30, 20);
        q.run(1, 8);
        Check.due("as it is", q.at(0, 3), 0);
        Check.due("one too narrow for both", Panels.withBox(19, 30, 30, 20).run(1, 8), 0);
        Check.due("one too low for both", Panels.withBox(20, 29, 30, 20).run(1, 8), 0);
    }

    @Says(in = "Terms", sentence = "RAILS (0 .. 65,536, at first 0) are left free at the sides: "
        + "0 left, 1 low, 2 right, 3 high")
    static void railsThatLeaveJustRoom() {
        PanelForms p = Panels.withBox(100, 100, 78, 76);
        for (int side = 0; side < 4; side++) {
            p.rail(side, 10 + side);
        }
        Check.due("78 by 76 between the rails", p.run(1, 8), 1);
        Check.due("at the left rail", p.at(0, 1), 10);
        Check.due("at the low rail", p.at(0, 2), 11);
        for (int side = 0; side < 4; side++) {
            p.rail(side, 11 + side);
            Check.due("rail " + side + " one wider", p.run(1, 8), 0);
            p.rail(side, 10 + side);
        }
    }

    @Says(in = "Terms", sentence = "RAILS (0 .. 65,536, at first 0) are left free at the sides")
    static void railsThatMeetOrCross() {
        for (int side = 0; side < 2; side++) {
            PanelForms p = Panels.withBox(10, 10, 1, 1);
            p.rail(side, 6);
            p.rail(side + 2, 3);
            Check.due("one left between rails " + side, p.run(1, 8), side == 0 ? 8 : 10);
            p.rail(side + 2, 4);
            Check.due("rails meet " + side, p.run(1, 8), 0);
            p.gap(65536);
            p.rail(side + 2, 65536);
            Check.due("rails cross, whatever the gap " + side, p.run(1, 8), 0);
            p.rail(side, 65536);
            Check.due("both are as wide as can be " + side, p.run(1, 8), 0);
        }
    }

    @Says(in = "Terms", sentence = "from the low RAIL upwards, with the GAP (0 .. 65,536, at first 0) between them")
    static void gapsBetweenRowsOnly() {
        PanelForms p = Panels.withBox(10, 32, 10, 10);
        Check.due("no gap at first", p.run(1, 8) * 100 + p.at(2, 2), 320);
        p.gap(1);
        Check.due("three rows and two gaps are just as high", p.run(1, 8), 3);
        Check.due("the third row", p.at(2, 2), 22);
        p.rail(3, 1);
        Check.due("one too low", p.run(1, 8), 2);
        p.gap(65536);
        Check.due("no gap is needed for one row", p.run(1, 8), 1);
    }

    @Says(in = "Terms", sentence = "in a ROW from the left RAIL to the right, with the GAP between")
    static void gapsBetweenCopiesOnly() {
        PanelForms p = Panels.withBox(34, 20, 10, 20);
        p.gap(2);
        Check.due("three copies and two gaps are just as wide", p.run(1, 8), 3);
        Check.due("the third copy", p.at(2, 1), 24);
        p.gap(3);
        Check.due("two too wide", p.run(1, 8), 2);
        p.gap(65536);
        Check.due("no gap is needed for one copy", p.run(1, 8), 1);
        p.gap(2);
        p.rail(0, 1);
        Check.due("one too narrow", p.run(1, 8), 2);
        Check.due("the second copy", p.at(1, 1), 13);
    }

    @Says(in = "Terms", sentence = "as many as there is room for, at most 20")
    static void twentyInARowAtMost() {
        Check.due("room for 19", Panels.withBox(19, 1, 1, 1).run(1, 8), 19);
        Check.due("room for 20", Panels.withBox(20, 1, 1, 1).run(1, 8), 20);
        Check.due("room for 21", Panels.withBox(21, 1, 1, 1).run(1, 8), 20);
        Check.due("room for 65,536", Panels.withBox(65536, 1, 1, 1).run(1, 8), 20);
        PanelForms rows = Panels.withBox(21, 2, 1, 1);
        Panels.ran("twenty in each row", rows, 1, 8, "0/0x20 0/0x20");
        PanelForms apart = Panels.withBox(38, 1, 1, 1);
        apart.gap(1);
        Check.due("room for 19 with gaps, and half a one", apart.run(1, 8), 19);
    }

    @Says(in = "Terms", sentence = "no more of a board in all ROWS than are WANTED (at first 200 each)")
    static void noMoreThanWanted() {
        PanelForms p = Panels.withBox(3, 3, 1, 1);
        Panels.ran("as many as fit", p, 1, 8, "0/0x3 0/0x3 0/0x3");
        p.wants(0, 9);
        Panels.ran("just as many", p, 1, 8, "0/0x3 0/0x3 0/0x3");
        p.wants(0, 8);
        Panels.ran("one less", p, 1, 8, "0/0x3 0/0x3 0/0x2");
        p.wants(0, 4);
        Panels.ran("one in a second row", p, 1, 8, "0/0x3 0/0x1");
        p.wants(0, 3);
        Panels.ran("one row", p, 1, 8, "0/0x3");
        p.wants(0, 1);
        Panels.ran("one copy", p, 1, 8, "0/0x1");
        p.wants(0, 0);
        Panels.ran("none", p, 1, 8, "");
        PanelForms both = Panels.sixteen();
        both.wants(0, 7);
        Panels.ran("those as they are and those turned together", both, 1, 8, "0/0x3 0/1x4");
    }

    @Says(in = "Terms", sentence = "WANTED (at first 200 each)")
    static void wantedOfEachBoardByItself() {
        PanelForms p = new PanelForms(2, 8);
        for (int n = 0; n < 4; n++) {
            Panels.addBox(p, 1, 1);
        }
        p.wants(0, 2);
        p.wants(1, 4);
        p.wants(2, 4);
        Panels.ran("each board's own", p, 4, 8, "0/0x2 1/0x2 1/0x2 2/0x2 2/0x2 3/0x2 3/0x2 3/0x2");
        PanelForms many = Panels.withBox(65536, 65536, 1, 1);
        Check.due("at first more than 8 rows of 20 hold", many.run(1, 8), 160);
    }

    @Says(in = "Terms", sentence = "A RUN looks at the first boards, as many as told")
    static void onlyTheFirstBoards() {
        PanelForms p = new PanelForms(12, 1);
        for (long wide : new long[] {6, 4, 3, 2}) {
            Panels.addBox(p, wide, 1);
        }
        int[] copies = {0, 2, 3, 4, 6};
        for (int kinds = 0; kinds <= 4; kinds++) {
            Check.due("the first " + kinds, p.run(kinds, 8), copies[kinds]);
        }
        Check.due("four of one board", Panels.withBox(12, 1, 6, 1).run(4, 8), 2);
        Check.due("four of no board", new PanelForms(12, 1).run(4, 8), 0);
        PanelForms empty = new PanelForms(12, 1);
        empty.board();
        Panels.addBox(empty, 6, 1);
        Check.due("a board without area is a first one too", empty.run(1, 8), 0);
        Check.due("the board behind it", empty.run(2, 8), 2);
    }

    @Says(in = "Terms", sentence = "A RUN looks at the first boards, as many as told")
    static void boardsOfTheRunBeforeAreNotLookedAt() {
        PanelForms p = new PanelForms(12, 4);
        for (int n = 0; n < 4; n++) {
            Panels.addBox(p, 12, 1);
            p.wants(n, 1);
        }
        for (int kinds = 4; kinds >= 0; kinds--) {
            Check.due("one of each of " + kinds, p.run(kinds, 8), kinds);
        }
    }

    @Says(in = "Terms", sentence = "at most as many ROWS as told")
    static void onlySoManyRows() {
        PanelForms p = Panels.withBox(1, 10, 1, 1);
        for (int rows = 0; rows <= 8; rows++) {
            Check.due(rows + " rows", p.run(1, rows), rows);
        }
        Panels.ran("one row: the one with the most", Panels.sixteen(), 1, 1, "0/1x5");
        Panels.ran("three rows: those with the most", Panels.sixteen(), 1, 3, "0/1x5 0/1x5 0/1x5");
        Panels.ran("more rows than fit", Panels.sixteen(), 1, 8, "0/0x3 0/0x3 0/1x5 0/1x5");
    }

    @Says(in = "Terms", sentence = "that fit between the RAILS (each with a copy)")
    static void noRowWithoutACopy() {
        PanelForms p = new PanelForms(10, 9);
        Panels.addBox(p, 5, 3);
        Panels.addBox(p, 10, 3);
        p.wants(0, 0);
        Panels.ran("none wanted: no row, so one row is left for the other", p, 2, 1, "1/0x1");
        Check.due("and it stands lowest", p.at(0, 2), 0);
        p.wants(0, 2);
        Panels.ran("a second row would be empty", p, 2, 8, "0/0x2 1/0x1 1/0x1");
        Check.due("so the next row stands on the first", p.at(2, 2), 3);
        PanelForms wide = new PanelForms(10, 10);
        Panels.addBox(wide, 11, 11);
        Panels.addBox(wide, 10, 10);
        Panels.ran("too wide: no row", wide, 2, 8, "1/0x1");
    }

    @Says(in = "Terms", sentence = "those with the most copies")
    static void mostCopiesAheadOfFewRowsAndLowBoards() {
        PanelForms p = new PanelForms(30, 30);
        Panels.addBox(p, 10, 30);
        Panels.addBox(p, 14, 15);
        Panels.ran("four in two rows ahead of three in one", p, 2, 8, "1/0x2 1/0x2");
        Panels.ran("three ahead of two", p, 2, 1, "0/0x3");
    }

    @Says(in = "Terms", sentence = "of these with the fewest ROWS")
    static void fewestRowsAheadOfLowBoards() {
        PanelForms p = new PanelForms(100, 60);
        Panels.addBox(p, 50, 20);
        Panels.addBox(p, 16, 60);
        Panels.ran("six in one row ahead of six in three", p, 2, 8, "1/0x6");
        Panels.ran("six in three rows, where it is alone", p, 1, 8, "0/0x2 0/0x2 0/0x2");
        p.wants(0, 0);
        p.wants(1, 0);
        Panels.ran("no copies in no rows", p, 2, 8, "");
    }

    @Says(in = "Terms", sentence = "of these the one whose first ROW is of the lowest board")
    static void lowestFirstBoard() {
        PanelForms same = new PanelForms(20, 20);
        Panels.addBox(same, 10, 10);
        Panels.addBox(same, 10, 10);
        Panels.ran("of the same boards the lower", same, 2, 8, "0/0x2 0/0x2");
        PanelForms p = new PanelForms(15, 10);
        Panels.addBox(p, 7, 6);
        Panels.addBox(p, 7, 5);
        Panels.addBox(p, 7, 4);
        Panels.ran("even if its second row is of a higher one", p, 3, 8, "0/0x2 2/0x2");
    }

    @Says(in = "Terms", sentence = "as it is ahead of turned")
    static void asItIsAheadOfTurned() {
        Panels.ran("a square", Panels.withBox(20, 20, 10, 10), 1, 8, "0/0x2 0/0x2");
        Panels.ran("as many turned as not", Panels.withBox(11, 11, 10, 11), 1, 8, "0/0x1");
        PanelForms two = new PanelForms(11, 11);
        Panels.addBox(two, 12, 11);
        Panels.addBox(two, 11, 10);
        Panels.ran("of the lowest board that fits", two, 2, 8, "1/0x1");
        PanelForms first = new PanelForms(10, 20);
        Panels.addBox(first, 20, 10);
        Panels.addBox(first, 10, 20);
        Panels.ran("a lower board turned ahead of a higher as it is", first, 2, 8, "0/1x1");
    }

    @Says(in = "Terms", sentence = "of these whose second one is, and so on")
    static void lowestNextBoards() {
        PanelForms second = new PanelForms(2, 2);
        for (int n = 0; n < 3; n++) {
            Panels.addBox(second, 1, 1);
        }
        second.wants(0, 2);
        Panels.ran("the second row", second, 3, 8, "0/0x2 1/0x2");
        PanelForms last = new PanelForms(1, 8);
        for (int n = 0; n < 3; n++) {
            Panels.addBox(last, 1, 1);
        }
        last.wants(0, 6);
        last.wants(1, 1);
        Panels.ran("up to the eighth row", last, 3, 8, "0/0x1 0/0x1 0/0x1 0/0x1 0/0x1 0/0x1 1/0x1 2/0x1");
    }

    @Says(in = "Terms", sentence = "ROWS stand in this order, those of the same board and turn one above the other, "
        + "none ahead of a lower board, or turn 0 of it")
    static void rowsStandInTheOrderOfBoardsAndTurns() {
        PanelForms p = Panels.sixteen();
        Panels.ran("as they are below turned ones", p, 1, 8, "0/0x3 0/0x3 0/1x5 0/1x5");
        long[] ys = {0, 20, 40, 70};
        int[] copies = {0, 3, 6, 11};
        for (int row = 0; row < 4; row++) {
            Check.due("y of row " + row, p.at(copies[row], 2), ys[row]);
        }
        PanelForms mixed = new PanelForms(30, 30);
        Panels.addBox(mixed, 15, 20);
        Panels.addBox(mixed, 10, 10);
        mixed.wants(1, 3);
        Panels.ran("a lower board below a higher", mixed, 2, 8, "0/0x2 1/0x3");
        Check.due("the higher board's row stands on it", mixed.at(2, 2), 20);
    }

    @Says(in = "Terms", sentence = "`NONE = -1`: There is none.")
    static void noneIsMinusOne() {
        Check.due("NONE", PanelForms.NONE, -1);
    }

    @Says(in = "Not promised", sentence = "Nothing is promised beyond the answers and state changes described above")
    static void askingChangesNothing() {
        PanelForms p = Panels.busy();
        String before = Panels.seen(p);
        Check.same("all seen once more", Panels.seen(p), before);
    }
}
