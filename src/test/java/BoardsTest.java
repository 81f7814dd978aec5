/** What a board is made of, sentence by sentence: promises 1, 2, 3, 10 and 18. */
public final class BoardsTest {
    public static void main(String[] args) {
        Sentences.askAll(BoardsTest.class);
    }

    @Says(in = "Promise 1", sentence = "No boards")
    static void newObjectHasNoBoards() {
        PanelForms p = new PanelForms(10, 20);
        Check.index("a corner of board 0", () -> Check.one(p.corner(0, 1, 1)));
        Check.index("a part of board 0", () -> Check.one(p.part(0, 1, 1, 1)));
        Check.index("board 0 is wanted", () -> Check.one(p.wants(0, 1)));
        Check.due("a run over all", p.run(4, 8), 0);
        Check.due("the first board is 0", p.board(), 0);
    }

    @Says(in = "Promise 1", sentence = "no copies")
    static void newObjectHasNoCopies() {
        PanelForms p = new PanelForms(10, 20);
        Check.index("at", () -> p.at(0, 0));
        Check.index("tab", () -> p.tab(0, 0, 0));
        Check.index("bad", () -> Check.one(p.bad(0, true)));
        Check.index("score", () -> p.score(0, 0));
        Check.index("mill", () -> p.mill(0, 0));
        Check.due("order", p.order(0), PanelForms.NONE);
        Check.no("overlaps", p.overlaps());
        Check.due("all is wasted: above", p.waste(0), 1);
        Check.due("all is wasted: below", p.waste(1), 1);
        Panels.addBox(p, 5, 5);
        Check.index("a board alone makes no copy", () -> p.at(0, 0));
    }

    @Says(in = "Promise 2", sentence = "A new board without CORNERS: its number")
    static void boardNumbersRiseFromZero() {
        PanelForms p = new PanelForms(10, 10);
        for (int n = 0; n < 4; n++) {
            int next = n;
            Check.index("board " + n + " is not made yet", () -> Check.one(p.corner(next, 0, 0)));
            Check.due("board number", p.board(), n);
            Check.due("without corners it lays no copy", p.run(4, 8), 0);
            for (int c = 0; c < 12; c++) {
                Check.yes("all 12 corners are free", p.corner(n, 5, c));
            }
        }
    }

    @Says(in = "Promise 2", sentence = "NONE when there are 4")
    static void noFifthBoard() {
        PanelForms p = new PanelForms(10, 10);
        for (int n = 0; n < 4; n++) {
            p.board();
        }
        for (int again = 0; again < 3; again++) {
            Check.due("a fifth board", p.board(), PanelForms.NONE);
            Check.index("there is no board 4", () -> Check.one(p.corner(4, 0, 0)));
        }
        Panels.leavesAll("a fifth board", q -> q.board());
    }

    @Says(in = "Promise 3", sentence = "One more CORNER of its outline: true; false when there are 12")
    static void noThirteenthCorner() {
        PanelForms p = new PanelForms(100, 100);
        p.board();
        p.board();
        for (int n = 1; n <= 12; n++) {
            Check.yes("corner " + n, p.corner(0, 10, 20));
        }
        Check.no("a thirteenth", p.corner(0, 5, 60));
        Check.no("a fourteenth", p.corner(0, 0, 0));
        Check.yes("another board has its own", p.corner(1, 5, 60));
        Check.due("what was refused is not there", p.run(1, 8), 0);
        Panels.leavesAll("a thirteenth corner", q -> Check.one(q.corner(0, 0, 0)));
    }

    @Says(in = "Promise 3", sentence = "One more CORNER of its outline")
    static void aCornerMoreGrowsTheBox() {
        PanelForms p = new PanelForms(100, 100);
        p.wants(p.board(), 1);
        long[][] corners = {{10, 10}, {12, 11}, {8, 11}, {9, 5}, {9, 19}};
        long[][] sizes = {{0, 0}, {2, 1}, {4, 1}, {4, 6}, {4, 14}};
        for (int n = 0; n < corners.length; n++) {
            p.corner(0, corners[n][0], corners[n][1]);
            int copies = p.run(1, 1);
            Check.due("copies with corner " + n, copies, n == 0 ? 0 : 1);
            Check.due("how wide with corner " + n, copies == 0 ? 0 : p.at(0, 4), sizes[n][0]);
            Check.due("how high with corner " + n, copies == 0 ? 0 : p.at(0, 5), sizes[n][1]);
        }
    }

    @Says(in = "Promise 3", sentence = "IndexOutOfBoundsException, when there is no such board")
    static void cornerOfNoBoard() {
        noSuchBoard((p, n) -> Check.one(p.corner(n, 0, 0)));
        PanelForms p = new PanelForms(10, 10);
        Check.index("no board ahead of no place", () -> Check.one(p.corner(0, -1, -1)));
        Panels.leavesAll("a corner of no board", q -> Check.one(q.corner(4, 0, 0)));
    }

    @Says(in = "Promise 3", sentence = "IllegalArgumentException, when it is no place")
    static void cornerAtNoPlace() {
        PanelForms p = new PanelForms(10, 10);
        p.board();
        for (long no : Panels.NO_LENGTHS) {
            Check.argument("x " + no, () -> Check.one(p.corner(0, no, 0)));
            Check.argument("y " + no, () -> Check.one(p.corner(0, 0, no)));
            Panels.leavesAll("x " + no, q -> Check.one(q.corner(1, no, 0)));
            Panels.leavesAll("y " + no, q -> Check.one(q.corner(1, 0, no)));
        }
        for (int n = 1; n <= 12; n++) {
            Check.yes("all 12 are still free", p.corner(0, 3, 3));
        }
        Check.argument("also when it is full", () -> Check.one(p.corner(0, 0, 65537)));
    }

    @Says(in = "Promise 10", sentence = "A PART of a board, a disc: true; false when there are 10")
    static void noEleventhPart() {
        PanelForms p = Panels.withBox(10, 10, 10, 10);
        p.board();
        for (int n = 1; n <= 10; n++) {
            Check.yes("part " + n, p.part(0, 5, 5, 1));
        }
        Check.no("an eleventh", p.part(0, 5, 0, 2));
        Check.no("a twelfth", p.part(0, 5, 5, 65536));
        Check.yes("another board has its own", p.part(1, 5, 0, 2));
        p.run(1, 1);
        Check.due("what was refused is not there", p.tab(0, 1, 0), 5);
        Panels.leavesAll("an eleventh part", q -> Check.one(q.part(0, 3, 9, 65536)));
    }

    @Says(in = "Promise 10", sentence = "A PART of a board, a disc: true")
    static void theTenthPartCounts() {
        PanelForms p = Panels.withBox(10, 10, 10, 10);
        p.run(1, 1);
        for (int n = 1; n <= 9; n++) {
            p.part(0, 5, 5, 1);
        }
        Check.due("nine away from the tab", p.tab(0, 1, 0), 5);
        p.part(0, 5, 0, 1);
        Check.state("the tenth at the tab", () -> p.tab(0, 1, 0));
        Check.due("a part takes no room", p.run(1, 1), 1);
    }

    @Says(in = "Promise 10", sentence = "IndexOutOfBoundsException, when there is no such board")
    static void partOfNoBoard() {
        noSuchBoard((p, n) -> Check.one(p.part(n, 0, 0, 1)));
        PanelForms p = new PanelForms(10, 10);
        Check.index("no board ahead of no radius", () -> Check.one(p.part(0, 0, 0, 0)));
        Panels.leavesAll("a part of no board", q -> Check.one(q.part(4, 0, 0, 1)));
    }

    @Says(in = "Promise 10", sentence = "IllegalArgumentException, when x or y is not 0 .. 65,536")
    static void partAtNoPlace() {
        PanelForms p = new PanelForms(10, 10);
        p.board();
        for (long no : Panels.NO_LENGTHS) {
            Check.argument("x " + no, () -> Check.one(p.part(0, no, 0, 1)));
            Check.argument("y " + no, () -> Check.one(p.part(0, 0, no, 1)));
        }
        Check.yes("the least", p.part(0, 0, 0, 1));
        Check.yes("the greatest", p.part(0, 65536, 65536, 1));
        for (int n = 3; n <= 10; n++) {
            Check.yes("the others are still free", p.part(0, 0, 0, 1));
        }
        Check.argument("also when it is full", () -> Check.one(p.part(0, -1, 0, 1)));
        Panels.leavesAll("a part at no place", q -> Check.one(q.part(1, 0, -1, 65536)));
    }

    @Says(in = "Promise 10", sentence = "or r not 1 .. 65,536")
    static void partOfNoRadius() {
        PanelForms p = new PanelForms(10, 10);
        p.board();
        for (long no : Panels.NO_LENGTHS) {
            Check.argument("r " + no, () -> Check.one(p.part(0, 0, 0, no)));
        }
        Check.argument("r 0", () -> Check.one(p.part(0, 0, 0, 0)));
        Check.yes("the least", p.part(0, 0, 0, 1));
        Check.yes("the greatest", p.part(0, 0, 0, 65536));
        for (int n = 3; n <= 10; n++) {
            Check.yes("the others are still free", p.part(0, 0, 0, 1));
        }
        Check.argument("also when it is full", () -> Check.one(p.part(0, 0, 0, 0)));
        Panels.leavesAll("a part of no radius", q -> Check.one(q.part(1, 5, 12, 65537)));
    }

    @Says(in = "Promise 18", sentence = "How many of a board are WANTED (0 .. 200): whether it was another number")
    static void wantsTellsAnotherNumber() {
        PanelForms p = new PanelForms(10, 10);
        p.board();
        p.board();
        Check.no("200 at first", p.wants(0, 200));
        Check.yes("199", p.wants(0, 199));
        Check.yes("the least", p.wants(0, 0));
        Check.no("the least again", p.wants(0, 0));
        Check.no("another board has its own", p.wants(1, 200));
        Check.yes("the greatest", p.wants(0, 200));
        Check.no("the greatest again", p.wants(0, 200));
    }

    @Says(in = "Promise 18", sentence = "IndexOutOfBoundsException, when there is no such board")
    static void wantsOfNoBoard() {
        noSuchBoard((p, n) -> Check.one(p.wants(n, 1)));
        PanelForms p = new PanelForms(10, 10);
        Check.index("no board ahead of no number", () -> Check.one(p.wants(0, 201)));
        Check.index("a board to come", () -> Check.one(p.wants(0, 3)));
        p.board();
        Check.no("it is still 200 at first", p.wants(0, 200));
    }

    @Says(in = "Promise 18", sentence = "IllegalArgumentException, when n is not so")
    static void wantsNoNumber() {
        PanelForms p = new PanelForms(10, 10);
        p.board();
        p.wants(0, 7);
        for (int no : new int[] {-1, 201, Integer.MIN_VALUE, Integer.MAX_VALUE}) {
            Check.argument("n " + no, () -> Check.one(p.wants(0, no)));
            Check.no("it is as it was", p.wants(0, 7));
        }
    }

    private interface CallOnBoard {
        long answer(PanelForms p, int board);
    }

    /** With each number of boards, 0 to 4: those that there are answer, the numbers right outside and far out throw. */
    private static void noSuchBoard(CallOnBoard call) {
        PanelForms p = new PanelForms(10, 10);
        for (int boards = 0; boards <= 4; boards++) {
            int behind = boards;
            Check.index("board -1 of " + boards, () -> call.answer(p, -1));
            Check.index("board " + behind + " of " + boards, () -> call.answer(p, behind));
            for (int far : Panels.FAR_OUT) {
                Check.index("board " + far, () -> call.answer(p, far));
            }
            if (boards > 0) {
                Check.due("the last board of " + boards, call.answer(p, boards - 1), 1);
            }
            p.board();
        }
    }
}
