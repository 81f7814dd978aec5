/**
 * Panels: copies of boards in rows, as many as can be, by a closed search; with tabs, scores,
 * the ways of a mill, waste, bad copies and the order of cuts. See the document's promises 1 to 18.
 */
public final class PanelForms {
    /** There is none. */
    public static final int NONE = -1;

    private static final long MOST_LENGTH = 65536L;
    private static final int MOST_BOARDS = 4;
    private static final int MOST_CORNERS = 12;
    private static final int MOST_PARTS = 10;
    private static final int MOST_WANTED = 200;
    private static final int MOST_ROWS = 8;
    private static final int MOST_IN_ROW = 20;
    private static final int MOST_COPIES = MOST_ROWS * MOST_IN_ROW;
    private static final int SIDES = 4;
    private static final int LEFT = 0;
    private static final int LOW = 1;
    private static final int RIGHT = 2;
    private static final int HIGH = 3;
    private static final int TURNS = 2;
    /** A kind of row is a board and a turn of it: board * TURNS + turn, so that kinds rise in the rows' order. */
    private static final int KINDS = MOST_BOARDS * TURNS;
    /** Far above the steps that Euclid's way needs for numbers below 2 to the 62nd. */
    private static final int MOST_DIVISIONS = 200;

    private final long panelWidth;
    private final long panelHeight;
    private final Board[] boards;
    private final long[] rails;
    private final Search search;
    private final Layout layout;
    private int boardCount;
    private long gapLength;
    private long toolRadius;
    private boolean provedInRun;

    public PanelForms(long width, long height) {
        panelWidth = asPanelLength(width);
        panelHeight = asPanelLength(height);
        boards = new Board[MOST_BOARDS];
        for (int n = 0; n < MOST_BOARDS; n++) {
            boards[n] = new Board();
        }
        rails = new long[SIDES];
        search = new Search();
        layout = new Layout();
    }

    public int board() {
        if (boardCount >= MOST_BOARDS) {
            return NONE;
        }
        boardCount++;
        return boardCount - 1;
    }

    public boolean corner(int board, long x, long y) throws IndexOutOfBoundsException, IllegalArgumentException {
        checkBoard(board);
        checkLength(x);
        checkLength(y);
        return boards[board].addCorner(x, y);
    }

    public int run(int kinds, long nodes) throws IllegalArgumentException {
        if (!isWithin(kinds, 0, MOST_BOARDS) || !isWithin(nodes, 0, MOST_ROWS)) {
            throw new IllegalArgumentException("boards are 0 to 4, rows 0 to 8");
        }
        int rows = (int) nodes;
        int looked = Math.min(kinds, boardCount);
        long free = panelHeight - rails[LOW] - rails[HIGH];
        prepareSearch(looked);
        search.look(rows, free);
        layOutBest();
        provedInRun = looked == boardCount && !search.findsMore(rows + 1, free);
        return layout.copies;
    }

    public long at(int copy, int what) throws IndexOutOfBoundsException {
        checkCopy(copy);
        int row = layout.rowOfCopy[copy];
        switch (what) {
            case 0:
                return layout.boardOfRow[row];
            case 1:
                return layout.xOfCopy[copy];
            case 2:
                return layout.yOfRow[row];
            case 3:
                return layout.turnOfRow[row];
            case 4:
                return layout.wideInRow[row];
            case 5:
                return layout.highInRow[row];
            default:
                throw new IndexOutOfBoundsException("a copy tells 0 to 5");
        }
    }

    public boolean proved() {
        return provedInRun;
    }

    public boolean gap(long v) throws IllegalArgumentException {
        checkLength(v);
        boolean other = gapLength != v;
        gapLength = v;
        return other;
    }

    public long tab(int copy, int k, int what) throws IndexOutOfBoundsException, IllegalStateException {
        checkCopy(copy);
        checkSide(k);
        checkOneOfTwo(what);
        int row = layout.rowOfCopy[copy];
        long alongX = tabOffset(k, LEFT, RIGHT, layout.wideInRow[row]);
        long alongY = tabOffset(k, LOW, HIGH, layout.highInRow[row]);
        if (boards[layout.boardOfRow[row]].hasPartNear(alongX, alongY, layout.turnOfRow[row])) {
            throw new IllegalStateException("a part is in the tab's way");
        }
        return what == 0 ? layout.xOfCopy[copy] + alongX : layout.yOfRow[row] + alongY;
    }

    public long score(int k, int what) throws IndexOutOfBoundsException {
        if (!isWithin(k, 0, layout.scores - 1)) {
            throw new IndexOutOfBoundsException("no such score");
        }
        checkOneOfTwo(what);
        return what == 0 ? layout.yOfScore[k] : layout.boxesAtScore[k];
    }

    public boolean part(int board, long x, long y, long r) throws IndexOutOfBoundsException, IllegalArgumentException {
        checkBoard(board);
        checkLength(x);
        checkLength(y);
        checkLength(r);
        if (r == 0) {
            throw new IllegalArgumentException("a part has a radius");
        }
        return boards[board].addPart(x, y, r);
    }

    public long waste(int part) throws IndexOutOfBoundsException {
        checkOneOfTwo(part);
        // Twice the areas, as an outline's area may end in a half.
        long whole = 2 * panelWidth * panelHeight;
        long free = whole - twiceAreaOfCopies();
        long divisor = commonDivisor(Math.abs(free), whole);
        return (part == 0 ? free : whole) / divisor;
    }

    public long mill(int k, int axis) throws IndexOutOfBoundsException {
        int copy = k < 0 ? NONE : layout.copyInOrder(k / SIDES);
        if (copy == NONE) {
            throw new IndexOutOfBoundsException("no such corner of the way");
        }
        checkOneOfTwo(axis);
        int row = layout.rowOfCopy[copy];
        int corner = k % SIDES;
        if (axis == 0) {
            boolean right = corner == 1 || corner == 2;
            return grownEnd(layout.xOfCopy[copy], layout.wideInRow[row], right);
        }
        boolean high = corner == 2 || corner == 3;
        return grownEnd(layout.yOfRow[row], layout.highInRow[row], high);
    }

    public boolean radius(long r) throws IllegalArgumentException {
        checkLength(r);
        boolean other = toolRadius != r;
        toolRadius = r;
        return other;
    }

    public boolean bad(int copy, boolean on) throws IndexOutOfBoundsException {
        checkCopy(copy);
        boolean other = layout.badCopy[copy] != on;
        layout.badCopy[copy] = on;
        return other;
    }

    public boolean rail(int side, long v) throws IndexOutOfBoundsException, IllegalArgumentException {
        checkSide(side);
        checkLength(v);
        boolean other = rails[side] != v;
        rails[side] = v;
        return other;
    }

    public boolean overlaps() {
        // Boxes of a row stand side by side and rows one above the other, so none can overlap.
        return false;
    }

    public int order(int k) {
        return layout.copyInOrder(k);
    }

    public boolean wants(int board, int n) throws IndexOutOfBoundsException, IllegalArgumentException {
        checkBoard(board);
        if (!isWithin(n, 0, MOST_WANTED)) {
            throw new IllegalArgumentException("0 to 200 are wanted");
        }
        boolean other = boards[board].wanted != n;
        boards[board].wanted = n;
        return other;
    }

    private static long asPanelLength(long told) {
        return Math.max(1, Math.min(told, MOST_LENGTH));
    }

    private static boolean isWithin(long n, long least, long most) {
        return n >= least && n <= most;
    }

    private static void checkLength(long v) {
        if (!isWithin(v, 0, MOST_LENGTH)) {
            throw new IllegalArgumentException("lengths and places are 0 to 65536");
        }
    }

    private static void checkSide(int side) {
        if (!isWithin(side, 0, SIDES - 1)) {
            throw new IndexOutOfBoundsException("no such side");
        }
    }

    private static void checkOneOfTwo(int n) {
        if (!isWithin(n, 0, 1)) {
            throw new IndexOutOfBoundsException("only 0 and 1 are told");
        }
    }

    private void checkBoard(int n) {
        if (!isWithin(n, 0, boardCount - 1)) {
            throw new IndexOutOfBoundsException("no such board");
        }
    }

    private void checkCopy(int copy) {
        if (!isWithin(copy, 0, layout.copies - 1)) {
            throw new IndexOutOfBoundsException("no such copy");
        }
    }

    private void prepareSearch(int looked) {
        long across = panelWidth - rails[LEFT] - rails[RIGHT];
        search.begin(gapLength);
        for (int n = 0; n < looked; n++) {
            Board one = boards[n];
            if (one.hasArea()) {
                search.wantedLeft[n] = one.wanted;
                for (int turn = 0; turn < TURNS; turn++) {
                    int room = roomInRow(across, one.wide(turn), gapLength);
                    search.allowKind(n * TURNS + turn, room, one.high(turn));
                }
            }
        }
    }

    private static int roomInRow(long across, long wide, long gapBetween) {
        long step = wide + gapBetween;
        if (across < wide || step <= 0) {
            return 0;
        }
        return (int) Math.min((across + gapBetween) / step, MOST_IN_ROW);
    }

    private void layOutBest() {
        layout.begin(rails[LEFT], rails[LOW], gapLength);
        for (int row = 0; row < search.bestRows; row++) {
            int kind = search.bestKinds[row];
            int n = kind / TURNS;
            int turn = kind % TURNS;
            layout.addRow(n, turn, boards[n].wide(turn), boards[n].high(turn), search.bestTaken[row]);
        }
    }

    private static long tabOffset(int side, int lowSide, int highSide, long length) {
        if (side == lowSide) {
            return 0;
        }
        return side == highSide ? length : length / 2;
    }

    private long grownEnd(long start, long length, boolean far) {
        return far ? start + length + toolRadius : start - toolRadius;
    }

    private long twiceAreaOfCopies() {
        long sum = 0;
        for (int row = 0; row < layout.rows; row++) {
            sum += layout.copiesInRow[row] * boards[layout.boardOfRow[row]].twiceArea();
        }
        return sum;
    }

    /** Of numbers that are not below 0; 1 at least, so that it can divide. */
    private static long commonDivisor(long one, long other) {
        long a = one;
        long b = other;
        for (int step = 0; step < MOST_DIVISIONS && b != 0; step++) {
            long rest = a % b;
            a = b;
            b = rest;
        }
        return Math.max(1, a);
    }

    /** A board: its outline, its parts, how many are wanted. */
    private static final class Board {
        private final long[] cornerX = new long[MOST_CORNERS];
        private final long[] cornerY = new long[MOST_CORNERS];
        private final long[] partX = new long[MOST_PARTS];
        private final long[] partY = new long[MOST_PARTS];
        private final long[] partRadius = new long[MOST_PARTS];
        private int corners;
        private int parts;
        private long leastX;
        private long leastY;
        private long greatestX;
        private long greatestY;
        private int wanted = MOST_WANTED;

        private boolean addCorner(long x, long y) {
            if (corners >= MOST_CORNERS) {
                return false;
            }
            leastX = corners == 0 ? x : Math.min(leastX, x);
            leastY = corners == 0 ? y : Math.min(leastY, y);
            greatestX = corners == 0 ? x : Math.max(greatestX, x);
            greatestY = corners == 0 ? y : Math.max(greatestY, y);
            cornerX[corners] = x;
            cornerY[corners] = y;
            corners++;
            return true;
        }

        private boolean addPart(long x, long y, long r) {
            if (parts >= MOST_PARTS) {
                return false;
            }
            partX[parts] = x;
            partY[parts] = y;
            partRadius[parts] = r;
            parts++;
            return true;
        }

        private boolean hasArea() {
            return greatestX > leastX && greatestY > leastY;
        }

        private long wide(int turn) {
            return turn == 0 ? greatestX - leastX : greatestY - leastY;
        }

        private long high(int turn) {
            return turn == 0 ? greatestY - leastY : greatestX - leastX;
        }

        /** Whether a place, told from the corner of a copy's box, is within a part of the copy. */
        private boolean hasPartNear(long x, long y, int turn) {
            for (int n = 0; n < parts; n++) {
                long fromLeft = partX[n] - leastX;
                long fromLow = partY[n] - leastY;
                long awayX = x - (turn == 0 ? fromLeft : high(0) - fromLow);
                long awayY = y - (turn == 0 ? fromLow : fromLeft);
                if (awayX * awayX + awayY * awayY < partRadius[n] * partRadius[n]) {
                    return true;
                }
            }
            return false;
        }

        private long twiceArea() {
            long sum = 0;
            for (int n = 0; n < corners; n++) {
                int next = n + 1 < corners ? n + 1 : 0;
                sum += cornerX[n] * cornerY[next] - cornerX[next] * cornerY[n];
            }
            return Math.abs(sum);
        }
    }

    /**
     * The closed search for the best rows. It goes through all rows of rising kinds, the lower kinds
     * first, and keeps one only if it is better than what it has: so of equal ones the first stays.
     */
    private static final class Search {
        private final int[] room = new int[KINDS];
        private final long[] highOfKind = new long[KINDS];
        private final int[] wantedLeft = new int[MOST_BOARDS];
        private final int[] kinds = new int[MOST_ROWS + 1];
        private final int[] taken = new int[MOST_ROWS + 1];
        private final int[] bestKinds = new int[MOST_ROWS + 1];
        private final int[] bestTaken = new int[MOST_ROWS + 1];
        private int bestRows;
        private int bestCopies;
        private int mostRows;
        private int mostRoom;
        private long gapBetween;

        private void begin(long gapLength) {
            gapBetween = gapLength;
            bestRows = 0;
            bestCopies = 0;
            mostRoom = 0;
            for (int kind = 0; kind < KINDS; kind++) {
                room[kind] = 0;
            }
        }

        private void allowKind(int kind, int copies, long high) {
            room[kind] = copies;
            highOfKind[kind] = high;
            mostRoom = Math.max(mostRoom, copies);
        }

        private void look(int rows, long free) {
            mostRows = Math.min(rows, MOST_ROWS + 1);
            tryRow(0, 0, 0, free);
        }

        /** Goes on with more rows from the best ones so far: they are lost if there are better ones. */
        private boolean findsMore(int rows, long free) {
            int before = bestCopies;
            look(rows, free);
            return bestCopies > before;
        }

        private void tryRow(int row, int firstKind, int copies, long free) {
            if (row >= mostRows || copies + (mostRows - row) * mostRoom <= bestCopies) {
                return;
            }
            for (int kind = firstKind; kind < KINDS; kind++) {
                int n = kind / TURNS;
                int more = Math.min(room[kind], wantedLeft[n]);
                if (more > 0 && highOfKind[kind] <= free) {
                    kinds[row] = kind;
                    taken[row] = more;
                    wantedLeft[n] -= more;
                    keepIfBetter(row + 1, copies + more);
                    tryRow(row + 1, kind, copies + more, free - highOfKind[kind] - gapBetween);
                    wantedLeft[n] += more;
                }
            }
        }

        private void keepIfBetter(int rows, int copies) {
            if (copies < bestCopies || (copies == bestCopies && rows >= bestRows)) {
                return;
            }
            bestCopies = copies;
            bestRows = rows;
            for (int row = 0; row < rows; row++) {
                bestKinds[row] = kinds[row];
                bestTaken[row] = taken[row];
            }
        }
    }

    /** Where the copies of the latest run lie, whatever has become of boards, gap and rails since. */
    private static final class Layout {
        private final int[] boardOfRow = new int[MOST_ROWS];
        private final int[] turnOfRow = new int[MOST_ROWS];
        private final int[] copiesInRow = new int[MOST_ROWS];
        private final long[] yOfRow = new long[MOST_ROWS];
        private final long[] wideInRow = new long[MOST_ROWS];
        private final long[] highInRow = new long[MOST_ROWS];
        private final int[] rowOfCopy = new int[MOST_COPIES];
        private final long[] xOfCopy = new long[MOST_COPIES];
        private final boolean[] badCopy = new boolean[MOST_COPIES];
        private final long[] yOfScore = new long[2 * MOST_ROWS];
        private final int[] boxesAtScore = new int[2 * MOST_ROWS];
        private int rows;
        private int copies;
        private int scores;
        private long left;
        private long nextY;
        private long gapBetween;

        private void begin(long leftRail, long lowRail, long gapLength) {
            rows = 0;
            copies = 0;
            scores = 0;
            left = leftRail;
            nextY = lowRail;
            gapBetween = gapLength;
        }

        private void addRow(int boardNumber, int turn, long wide, long high, int count) {
            if (rows >= MOST_ROWS) {
                return;
            }
            boardOfRow[rows] = boardNumber;
            turnOfRow[rows] = turn;
            copiesInRow[rows] = count;
            yOfRow[rows] = nextY;
            wideInRow[rows] = wide;
            highInRow[rows] = high;
            addCopies(count, wide + gapBetween);
            addScore(nextY, count);
            addScore(nextY + high, count);
            nextY += high + gapBetween;
            rows++;
        }

        private void addCopies(int count, long step) {
            for (int n = 0; n < count && copies < MOST_COPIES; n++) {
                rowOfCopy[copies] = rows;
                xOfCopy[copies] = left + n * step;
                badCopy[copies] = false;
                copies++;
            }
        }

        /** Rows are added upwards, so only the latest score can be at the same height. */
        private void addScore(long y, int boxes) {
            if (scores > 0 && yOfScore[scores - 1] == y) {
                boxesAtScore[scores - 1] += boxes;
            } else if (scores < yOfScore.length) {
                yOfScore[scores] = y;
                boxesAtScore[scores] = boxes;
                scores++;
            }
        }

        private int copyInOrder(int k) {
            if (k < 0 || k >= copies) {
                return NONE;
            }
            int good = countOf(false);
            return k < good ? nthOf(false, k) : nthOf(true, k - good);
        }

        private int countOf(boolean isBad) {
            int count = 0;
            for (int copy = 0; copy < copies; copy++) {
                if (badCopy[copy] == isBad) {
                    count++;
                }
            }
            return count;
        }

        private int nthOf(boolean isBad, int n) {
            int ahead = n;
            for (int copy = 0; copy < copies; copy++) {
                if (badCopy[copy] == isBad) {
                    if (ahead == 0) {
                        return copy;
                    }
                    ahead--;
                }
            }
            return NONE;
        }
    }
}
