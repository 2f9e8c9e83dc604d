/**
 * A workbench for space-filling orders of a square grid: curves, ranges, and a division into leaves.
 *
 * <p>What follows from the settings (the numbering, the intervals, the leaves) is kept in rows that are made
 * once, in the constructor, and filled anew by the calls that change the settings.
 */
public final class CurveOrders {
    public static final int BAD_INDEX = -1;
    public static final int BAD_VALUE = -2;
    public static final int NOT_POSSIBLE = -3;
    public static final int FULL = -4;
    public static final int NONE = -5;
    public static final int MORTON = 0, HILBERT = 1, TABLE = 2;

    private static final int FIRST_LEVELS = 3;
    private static final int MAX_LEVELS = 6;
    /** A cell is kept as y * STRIDE + x, whatever the side of the grid is. */
    private static final int STRIDE = 64;
    private static final int MAX_CELLS = 4096;
    private static final int MAX_STATES = 8;
    private static final int PLACES = 4;
    private static final int SIDES = 4;
    private static final int LEFT = 0, RIGHT = 1, BELOW = 2, ABOVE = 3;
    private static final int MAX_TEXT = 80;
    /** The bytes of a state in the text: four quarters, four states, a semicolon. */
    private static final int STATE_BYTES = 9;
    private static final int MAX_POINTS = 40;
    private static final int FIRST_BUCKET = 2;
    private static final int MAX_BUCKET = 8;
    private static final int SLOTS = 2;
    /** What leaf() can be asked for. */
    private static final int LEAF_NUMBERS = 5;
    /**
     * A square that lies in the range is one row of indices. The greatest such squares of one size lie in two
     * columns and two rows of squares of this size, so there are at most 4 * (64 + 32 + 16 + 8 + 4 + 2) + 1.
     */
    private static final int MAX_INTERVALS = 505;
    /**
     * A square of side 2 is divided only if it has two points, so at most 20 of them are; let there be d. A square
     * of side 4 is divided if one of these lies in it (d) or beside it (2 * d, as each has two outer sides), or if
     * it has two other points (20 - d): at most 60. So at most 20 + 60 + 64 + 16 + 4 + 1 squares are ever divided.
     */
    private static final int MAX_LEAVES = 496;
    /** Far above the steps that a search by halves needs, whose bounds are below MAX_CELLS + 1. */
    private static final int MAX_HALVINGS = 32;
    /** Far above the steps that balancing needs. */
    private static final int MAX_BALANCE_STEPS = 1000000;
    /** The answer of private methods that find nothing; no number of anything is negative. */
    private static final int ABSENT = -1;

    /** For each state and each place of it 10 * the quarter + the state of the quarter. */
    private static final int[] MORTON_VISITS = {0, 10, 20, 30};
    private static final int[] HILBERT_VISITS = {1, 20, 30, 12, 0, 11, 31, 23, 33, 22, 2, 10, 32, 13, 3, 21};
    private static final int HILBERT_STATES = 4;

    private final Setup now = new Setup();
    private final Setup[] slots = {new Setup(), new Setup()};
    private final boolean[] slotUsed = new boolean[SLOTS];
    private final Text text = new Text();
    private final Numbering numbering = new Numbering();
    private final Cover cover = new Cover();
    private final Surroundings surroundings = new Surroundings(numbering, now.division);

    public CurveOrders() {
        now.range.setWhole(1 << now.levels);
        renumber();
        redivide();
    }

    // ---- curves

    public int setLevels(int m) {
        if (m < 1 || m > MAX_LEVELS) {
            return BAD_VALUE;
        }
        int previous = now.levels;
        now.levels = m;
        now.range.setWhole(1 << m);
        now.points.removeAll();
        renumber();
        redivide();
        return previous;
    }

    public int setCurve(int curve) {
        if (curve < MORTON || curve > TABLE) {
            return BAD_VALUE;
        }
        int previous = now.curve;
        now.curve = curve;
        renumber();
        redivide();
        return previous;
    }

    public int states() {
        return now.stateCount();
    }

    public int visit(int state, int place) {
        if (state < 0 || state >= now.stateCount() || place < 0 || place >= PLACES) {
            return BAD_INDEX;
        }
        return now.visitsOfCurve()[PLACES * state + place];
    }

    public int index(int x, int y) {
        return numbering.holds(x, y) ? numbering.indexOf(x, y) : BAD_INDEX;
    }

    public int cell(int index, boolean vertical) {
        if (index < 0 || index >= numbering.cells) {
            return BAD_INDEX;
        }
        return vertical ? numbering.yAt(index) : numbering.xAt(index);
    }

    public int breaks() {
        return numbering.countBreaks();
    }

    public int stretch() {
        return numbering.greatestDifference();
    }

    // ---- text

    public int append(int letter) {
        if (letter < 0 || letter > 127) {
            return BAD_VALUE;
        }
        return text.add(letter) ? text.length : FULL;
    }

    public int clearText() {
        int previous = text.length;
        text.length = 0;
        return previous;
    }

    public int faultPosition() {
        int fault = text.findFault();
        return fault == ABSENT ? NONE : fault;
    }

    public int read() {
        if (text.findFault() != ABSENT) {
            return NOT_POSSIBLE;
        }
        now.table.takeFrom(text);
        now.curve = TABLE;
        renumber();
        redivide();
        return now.table.count;
    }

    // ---- ranges

    public int setRange(int left, int below, int right, int above) {
        if (!numbering.holds(left, below) || !numbering.holds(right, above) || right < left || above < below) {
            return BAD_VALUE;
        }
        now.range.setEdges(left, below, right, above);
        cover.fill(numbering, now.range);
        return (right - left + 1) * (above - below + 1);
    }

    public int intervals() {
        return cover.count;
    }

    public int interval(int interval, boolean last) {
        if (interval < 0 || interval >= cover.count) {
            return BAD_INDEX;
        }
        return last ? cover.last[interval] : cover.first[interval];
    }

    public int extra(int k) {
        return k < 1 ? BAD_VALUE : cover.cellsOfJoinedGaps(k);
    }

    public int covering(int k, int interval, boolean last) {
        if (k < 1) {
            return BAD_VALUE;
        }
        if (interval < 0 || interval >= Math.min(k, cover.count)) {
            return BAD_INDEX;
        }
        return cover.endOfJoined(k, interval, last);
    }

    public int clusters(int width, int height) {
        if (width < 1 || width > numbering.side || height < 1 || height > numbering.side) {
            return BAD_VALUE;
        }
        return numbering.countIntervalsOfAll(width, height);
    }

    // ---- points and leaves

    public int addPoint(int x, int y) {
        if (!numbering.holds(x, y)) {
            return BAD_INDEX;
        }
        if (now.points.find(x, y) != ABSENT) {
            return NOT_POSSIBLE;
        }
        if (!now.points.add(x, y)) {
            return FULL;
        }
        redivide();
        return now.points.count;
    }

    public int removePoint(int x, int y) {
        if (!numbering.holds(x, y)) {
            return BAD_INDEX;
        }
        if (!now.points.remove(x, y)) {
            return NOT_POSSIBLE;
        }
        redivide();
        return now.points.count;
    }

    public int points() {
        return now.points.count;
    }

    public int nearest(int x, int y) {
        if (!numbering.holds(x, y)) {
            return BAD_INDEX;
        }
        int found = now.points.findNearest(numbering, numbering.indexOf(x, y));
        return found == ABSENT ? NONE : found;
    }

    public int setBucket(int bucket) {
        if (bucket < 1 || bucket > MAX_BUCKET) {
            return BAD_VALUE;
        }
        int previous = now.bucket;
        now.bucket = bucket;
        redivide();
        return previous;
    }

    public int leaves() {
        return now.division.count;
    }

    public int leaf(int leaf, int what) {
        if (!isLeaf(leaf)) {
            return BAD_INDEX;
        }
        switch (what) {
            case 0:
                return surroundings.leftOf(leaf);
            case 1:
                return surroundings.belowOf(leaf);
            case 2:
                return now.division.sideOf(leaf);
            case 3:
                return now.division.countPoints(leaf, numbering, now.points);
            case 4:
                return now.division.starts[leaf];
            default:
                return BAD_VALUE;
        }
    }

    public int leafAt(int x, int y) {
        return numbering.holds(x, y) ? now.division.leafOfIndex(numbering.indexOf(x, y)) : BAD_INDEX;
    }

    public int neighbours(int leaf, int side) {
        if (!isLeaf(leaf) || !isSide(side)) {
            return BAD_INDEX;
        }
        surroundings.findBeyond(leaf, side);
        return surroundings.count;
    }

    public int neighbour(int leaf, int side, int rank) {
        if (!isLeaf(leaf) || !isSide(side) || rank < 0) {
            return BAD_INDEX;
        }
        surroundings.findBeyond(leaf, side);
        return rank < surroundings.count ? surroundings.found[rank] : NONE;
    }

    public int balance() {
        return surroundings.divideAllTooLarge();
    }

    public int walk(int leaf, int side) {
        return isLeaf(leaf) && isSide(side) ? surroundings.countSteps(leaf, side) : BAD_INDEX;
    }

    public int walked(int leaf, int side, int steps) {
        if (!isLeaf(leaf) || !isSide(side) || steps < 0) {
            return BAD_INDEX;
        }
        int found = surroundings.leafAfter(leaf, side, steps);
        return found == ABSENT ? NONE : found;
    }

    // ---- slots, checksum

    public int save(int slot) {
        if (slot < 0 || slot >= SLOTS) {
            return BAD_INDEX;
        }
        slots[slot].copyFrom(now);
        slotUsed[slot] = true;
        return now.division.count;
    }

    public int restore(int slot) {
        if (slot < 0 || slot >= SLOTS) {
            return BAD_INDEX;
        }
        if (!slotUsed[slot]) {
            return NOT_POSSIBLE;
        }
        now.copyFrom(slots[slot]);
        renumber();
        return now.division.count;
    }

    public long checksum() {
        return sumLeaves(sumIntervals(sumCurve(73)));
    }

    // ---- what the public methods share

    /** Follows a change of m, of the curve or of both; the range follows, the leaves do not. */
    private void renumber() {
        numbering.fill(now.levels, now.visitsOfCurve());
        cover.fill(numbering, now.range);
    }

    private void redivide() {
        now.division.fill(numbering, now.points, now.bucket);
    }

    private boolean isLeaf(int leaf) {
        return leaf >= 0 && leaf < now.division.count;
    }

    private static boolean isSide(int side) {
        return side >= 0 && side < SIDES;
    }

    private long sumCurve(long start) {
        long sum = sumValue(sumValue(start, now.levels), states());
        for (int state = 0; state < states(); state++) {
            for (int place = 0; place < PLACES; place++) {
                sum = sumValue(sum, visit(state, place));
            }
        }
        return sumValue(sumValue(sum, breaks()), stretch());
    }

    private long sumIntervals(long start) {
        long sum = sumValue(start, intervals());
        for (int i = 0; i < intervals(); i++) {
            sum = sumValue(sumValue(sum, interval(i, false)), interval(i, true));
        }
        return sum;
    }

    private long sumLeaves(long start) {
        long sum = sumValue(sumValue(sumValue(start, points()), now.bucket), leaves());
        for (int i = 0; i < leaves(); i++) {
            for (int what = 0; what < LEAF_NUMBERS; what++) {
                sum = sumValue(sum, leaf(i, what));
            }
        }
        return sum;
    }

    private static long sumValue(long sum, int value) {
        return 31 * sum + value;
    }

    /** Everything that a slot saves. */
    private static final class Setup {
        int levels = FIRST_LEVELS;
        int curve = MORTON;
        final StateTable table = new StateTable();
        final Rectangle range = new Rectangle();
        final PointSet points = new PointSet();
        int bucket = FIRST_BUCKET;
        final Division division = new Division();

        int stateCount() {
            switch (curve) {
                case HILBERT:
                    return HILBERT_STATES;
                case TABLE:
                    return table.count;
                default:
                    return 1;
            }
        }

        int[] visitsOfCurve() {
            switch (curve) {
                case HILBERT:
                    return HILBERT_VISITS;
                case TABLE:
                    return table.visits;
                default:
                    return MORTON_VISITS;
            }
        }

        void copyFrom(Setup other) {
            levels = other.levels;
            curve = other.curve;
            table.copyFrom(other.table);
            range.setEdges(other.range.left, other.range.below, other.range.right, other.range.above);
            points.copyFrom(other.points);
            bucket = other.bucket;
            division.copyFrom(other.division);
        }
    }

    /** The text that is appended to byte by byte, and its form. */
    private static final class Text {
        int length = 0;
        private final int[] bytes = new int[MAX_TEXT];

        boolean add(int letter) {
            if (length >= MAX_TEXT) {
                return false;
            }
            bytes[length] = letter;
            length++;
            return true;
        }

        /** Only of use for a position of a digit of a state that the text has. */
        int digitAt(int state, int column) {
            return bytes[STATE_BYTES * state + column] - '0';
        }

        int countStates() {
            return length / STATE_BYTES;
        }

        int findFault() {
            int fault = findFaultOfForm();
            return fault == ABSENT ? findUnknownState() : fault;
        }

        private int findFaultOfForm() {
            for (int position = 0; position < length; position++) {
                if (position >= MAX_STATES * STATE_BYTES || !fitsForm(position)) {
                    return position;
                }
            }
            return length == 0 || length % STATE_BYTES != 0 ? length : ABSENT;
        }

        private boolean fitsForm(int position) {
            int column = position % STATE_BYTES;
            int letter = bytes[position];
            if (column < PLACES) {
                return letter >= '0' && letter <= '3' && !isToldBefore(position, column);
            }
            if (column < 2 * PLACES) {
                return letter >= '0' && letter <= '9';
            }
            return letter == ';';
        }

        private boolean isToldBefore(int position, int column) {
            for (int earlier = position - column; earlier < position; earlier++) {
                if (bytes[earlier] == bytes[position]) {
                    return true;
                }
            }
            return false;
        }

        private int findUnknownState() {
            for (int state = 0; state < countStates(); state++) {
                for (int column = PLACES; column < 2 * PLACES; column++) {
                    if (digitAt(state, column) >= countStates()) {
                        return STATE_BYTES * state + column;
                    }
                }
            }
            return ABSENT;
        }
    }

    /** The states of the curve TABLE, which is as MORTON at first. */
    private static final class StateTable {
        int count = 1;
        final int[] visits = new int[MAX_STATES * PLACES];

        StateTable() {
            System.arraycopy(MORTON_VISITS, 0, visits, 0, PLACES);
        }

        /** The text has no fault. */
        void takeFrom(Text text) {
            count = text.countStates();
            for (int state = 0; state < count; state++) {
                for (int place = 0; place < PLACES; place++) {
                    int quarter = text.digitAt(state, place);
                    visits[PLACES * state + place] = 10 * quarter + text.digitAt(state, PLACES + place);
                }
            }
        }

        void copyFrom(StateTable other) {
            count = other.count;
            System.arraycopy(other.visits, 0, visits, 0, visits.length);
        }
    }

    /** A rectangle of cells; its edges belong to it. */
    private static final class Rectangle {
        int left = 0;
        int below = 0;
        int right = 0;
        int above = 0;

        void setEdges(int newLeft, int newBelow, int newRight, int newAbove) {
            left = newLeft;
            below = newBelow;
            right = newRight;
            above = newAbove;
        }

        void setWhole(int side) {
            setEdges(0, 0, side - 1, side - 1);
        }

        boolean holds(int x, int y) {
            return x >= left && x <= right && y >= below && y <= above;
        }
    }

    /** The indices of all cells of the grid, for the curve that is set. */
    private static final class Numbering {
        int side = 1;
        int cells = 1;
        private final int[] cellOfIndex = new int[MAX_CELLS];
        private final int[] indexOfCell = new int[MAX_CELLS];

        void fill(int levels, int[] visits) {
            side = 1 << levels;
            cells = side * side;
            cellOfIndex[0] = 0;
            for (int level = 0; level < levels; level++) {
                divideSquares(1 << (2 * level), side >> (level + 1), visits);
            }
            for (int i = 0; i < cells; i++) {
                cellOfIndex[i] %= MAX_CELLS;
                indexOfCell[cellOfIndex[i]] = i;
            }
        }

        /**
         * Until they are cells, squares stand in the row in the order of their visit, each as MAX_CELLS * its
         * state + the cell in its corner. The last square makes room for its quarters first, so that no square
         * is overwritten before its turn.
         */
        private void divideSquares(int squares, int half, int[] visits) {
            for (int i = squares - 1; i >= 0; i--) {
                int state = cellOfIndex[i] / MAX_CELLS;
                int corner = cellOfIndex[i] % MAX_CELLS;
                for (int place = 0; place < PLACES; place++) {
                    int visited = visits[PLACES * state + place];
                    int quarter = visited / 10;
                    int quarterCorner = corner + half * (quarter % 2 + quarter / 2 * STRIDE);
                    cellOfIndex[PLACES * i + place] = MAX_CELLS * (visited % 10) + quarterCorner;
                }
            }
        }

        boolean holds(int x, int y) {
            return x >= 0 && x < side && y >= 0 && y < side;
        }

        int indexOf(int x, int y) {
            return indexOfCell[y * STRIDE + x];
        }

        int xAt(int index) {
            return cellOfIndex[index] % STRIDE;
        }

        int yAt(int index) {
            return cellOfIndex[index] / STRIDE;
        }

        int countBreaks() {
            int count = 0;
            for (int i = 1; i < cells; i++) {
                if (Math.abs(xAt(i) - xAt(i - 1)) + Math.abs(yAt(i) - yAt(i - 1)) != 1) {
                    count++;
                }
            }
            return count;
        }

        int greatestDifference() {
            int greatest = 0;
            for (int near = 0; near + 1 < side; near++) {
                for (int along = 0; along < side; along++) {
                    int level = Math.abs(indexOf(near + 1, along) - indexOf(near, along));
                    int upright = Math.abs(indexOf(along, near + 1) - indexOf(along, near));
                    greatest = Math.max(greatest, Math.max(level, upright));
                }
            }
            return greatest;
        }

        /**
         * A rectangle has as many intervals as it has cells whose index is not the next one of another of its
         * cells; so the cells and the pairs of successive cells are counted, each in all rectangles at once.
         */
        int countIntervalsOfAll(int width, int height) {
            int count = 0;
            for (int i = 0; i < cells; i++) {
                count += countRectangles(i, i, width, height);
                if (i > 0) {
                    count -= countRectangles(i - 1, i, width, height);
                }
            }
            return count;
        }

        private int countRectangles(int index, int other, int width, int height) {
            return countPlaces(xAt(index), xAt(other), width) * countPlaces(yAt(index), yAt(other), height);
        }

        /** The number of rows of a length, within a side of the grid, that hold both coordinates. */
        private int countPlaces(int coordinate, int other, int length) {
            int lowest = Math.max(0, Math.max(coordinate, other) - length + 1);
            int highest = Math.min(side - length, Math.min(coordinate, other));
            return Math.max(0, highest - lowest + 1);
        }
    }

    /** The intervals of the range, and what becomes of them if gaps are joined. */
    private static final class Cover {
        int count = 0;
        final int[] first = new int[MAX_INTERVALS];
        final int[] last = new int[MAX_INTERVALS];

        void fill(Numbering numbering, Rectangle range) {
            count = 0;
            boolean open = false;
            for (int i = 0; i < numbering.cells; i++) {
                boolean inside = range.holds(numbering.xAt(i), numbering.yAt(i));
                if (inside && open) {
                    last[count - 1] = i;
                } else if (inside && count < MAX_INTERVALS) {
                    first[count] = i;
                    last[count] = i;
                    count++;
                }
                open = inside;
            }
        }

        /** The length of the gap behind an interval that is not the last one. */
        private int gapBehind(int interval) {
            return first[interval + 1] - last[interval] - 1;
        }

        private int countGapsUpTo(int length) {
            int found = 0;
            for (int i = 0; i + 1 < count; i++) {
                if (gapBehind(i) <= length) {
                    found++;
                }
            }
            return found;
        }

        private int countJoined(int k) {
            return Math.max(0, count - k);
        }

        /** Gaps do not change while others are joined, so the shortest ones are joined up to some length. */
        private int findLongestJoined(int joined) {
            int low = 0;
            int high = MAX_CELLS;
            for (int step = 0; step < MAX_HALVINGS && low < high; step++) {
                int middle = (low + high) / 2;
                if (countGapsUpTo(middle) >= joined) {
                    high = middle;
                } else {
                    low = middle + 1;
                }
            }
            return low;
        }

        int cellsOfJoinedGaps(int k) {
            int longest = findLongestJoined(countJoined(k));
            int shorter = 0;
            int sum = 0;
            for (int i = 0; i + 1 < count; i++) {
                if (gapBehind(i) < longest) {
                    shorter++;
                    sum += gapBehind(i);
                }
            }
            return sum + (countJoined(k) - shorter) * longest;
        }

        /** The number is that of an interval that there is when gaps have been joined. */
        int endOfJoined(int k, int number, boolean atLast) {
            int longest = findLongestJoined(countJoined(k));
            int longestToJoin = countJoined(k) - countGapsUpTo(longest - 1);
            int passed = 0;
            int start = 0;
            for (int i = 0; i + 1 < count; i++) {
                int gap = gapBehind(i);
                if (gap == longest) {
                    longestToJoin--;
                }
                if (gap < longest || gap == longest && longestToJoin >= 0) {
                    continue;
                }
                if (passed == number) {
                    return atLast ? last[i] : first[start];
                }
                passed++;
                start = i + 1;
            }
            return atLast ? last[count - 1] : first[start];
        }
    }

    /** The points, at most one in each cell, in no order that matters. */
    private static final class PointSet {
        int count = 0;
        private final int[] cells = new int[MAX_POINTS];

        int find(int x, int y) {
            for (int i = 0; i < count; i++) {
                if (cells[i] == y * STRIDE + x) {
                    return i;
                }
            }
            return ABSENT;
        }

        boolean add(int x, int y) {
            if (count >= MAX_POINTS) {
                return false;
            }
            cells[count] = y * STRIDE + x;
            count++;
            return true;
        }

        boolean remove(int x, int y) {
            int found = find(x, y);
            if (found == ABSENT) {
                return false;
            }
            count--;
            cells[found] = cells[count];
            return true;
        }

        void removeAll() {
            count = 0;
        }

        void copyFrom(PointSet other) {
            count = other.count;
            System.arraycopy(other.cells, 0, cells, 0, cells.length);
        }

        private int indexOfPoint(int point, Numbering numbering) {
            return numbering.indexOf(cells[point] % STRIDE, cells[point] / STRIDE);
        }

        /** The number of points whose indices are at least start and less than end. */
        int countBetween(int start, int end, Numbering numbering) {
            int found = 0;
            for (int i = 0; i < count; i++) {
                int indexHere = indexOfPoint(i, numbering);
                if (indexHere >= start && indexHere < end) {
                    found++;
                }
            }
            return found;
        }

        int findNearest(Numbering numbering, int index) {
            int best = ABSENT;
            for (int i = 0; i < count; i++) {
                int indexHere = indexOfPoint(i, numbering);
                int nearer = Math.abs(indexHere - index) - Math.abs(best - index);
                if (best == ABSENT || nearer < 0 || nearer == 0 && indexHere < best) {
                    best = indexHere;
                }
            }
            return best;
        }
    }

    /**
     * The leaves. A square of the division is a row of successive indices, so a leaf is kept as its smallest
     * index alone; the number of cells stands behind the last one.
     */
    private static final class Division {
        int count = 1;
        final int[] starts = new int[MAX_LEAVES + 1];

        void fill(Numbering numbering, PointSet points, int bucket) {
            count = 1;
            starts[0] = 0;
            starts[1] = numbering.cells;
            int leaf = 0;
            for (int step = 0; step < 2 * MAX_LEAVES && leaf < count; step++) {
                if (countPoints(leaf, numbering, points) <= bucket || !divide(leaf)) {
                    leaf++;
                }
            }
        }

        /** Puts the quarters of a leaf in its place, unless it is one cell. */
        boolean divide(int leaf) {
            int quarterArea = (starts[leaf + 1] - starts[leaf]) / 4;
            if (quarterArea < 1 || count + 3 > MAX_LEAVES) {
                return false;
            }
            for (int i = count; i > leaf; i--) {
                starts[i + 3] = starts[i];
            }
            for (int place = 1; place < PLACES; place++) {
                starts[leaf + place] = starts[leaf] + place * quarterArea;
            }
            count += 3;
            return true;
        }

        int sideOf(int leaf) {
            int area = starts[leaf + 1] - starts[leaf];
            int side = 1;
            while (side < STRIDE && side * side < area) {
                side *= 2;
            }
            return side;
        }

        int countPoints(int leaf, Numbering numbering, PointSet points) {
            return points.countBetween(starts[leaf], starts[leaf + 1], numbering);
        }

        int leafOfIndex(int index) {
            int low = 0;
            int high = count - 1;
            for (int step = 0; step < MAX_HALVINGS && low < high; step++) {
                int middle = (low + high + 1) / 2;
                if (starts[middle] <= index) {
                    low = middle;
                } else {
                    high = middle - 1;
                }
            }
            return low;
        }

        void copyFrom(Division other) {
            count = other.count;
            System.arraycopy(other.starts, 0, starts, 0, starts.length);
        }
    }

    /** The leaves as squares in the grid: where they lie, and which ones lie beyond their sides. */
    private static final class Surroundings {
        private final Numbering numbering;
        private final Division division;
        /** The neighbours that were found last. */
        int count = 0;
        final int[] found = new int[STRIDE];

        Surroundings(Numbering itsNumbering, Division itsDivision) {
            numbering = itsNumbering;
            division = itsDivision;
        }

        /** Squares lie at multiples of their side, which is a power of two. */
        int leftOf(int leaf) {
            return numbering.xAt(division.starts[leaf]) & -division.sideOf(leaf);
        }

        int belowOf(int leaf) {
            return numbering.yAt(division.starts[leaf]) & -division.sideOf(leaf);
        }

        /**
         * Puts the neighbours at a side into the row, in ascending order. A neighbour that is not larger begins
         * where the one before it ends, and a larger one is the only one.
         */
        void findBeyond(int leaf, int side) {
            int length = division.sideOf(leaf);
            int x = leftOf(leaf) + stepAcross(side == LEFT, side == RIGHT, length);
            int y = belowOf(leaf) + stepAcross(side == BELOW, side == ABOVE, length);
            int along = 0;
            count = 0;
            while (along < length && count < STRIDE && numbering.holds(x, y)) {
                int beyond = division.leafOfIndex(numbering.indexOf(x, y));
                insert(beyond);
                int step = Math.max(1, division.sideOf(beyond));
                along += step;
                if (side == LEFT || side == RIGHT) {
                    y += step;
                } else {
                    x += step;
                }
            }
        }

        private static int stepAcross(boolean downwards, boolean upwards, int length) {
            if (downwards) {
                return -1;
            }
            return upwards ? length : 0;
        }

        private void insert(int number) {
            int position = count;
            while (position > 0 && found[position - 1] > number) {
                found[position] = found[position - 1];
                position--;
            }
            found[position] = number;
            count++;
        }

        private int findLowest(int leaf, int side) {
            findBeyond(leaf, side);
            return count > 0 ? found[0] : ABSENT;
        }

        int countSteps(int leaf, int side) {
            int steps = 0;
            int next = findLowest(leaf, side);
            while (next != ABSENT && steps < STRIDE) {
                steps++;
                next = findLowest(next, side);
            }
            return steps;
        }

        /** A walk has fewer steps than there are cells along a side. */
        int leafAfter(int leaf, int side, int steps) {
            int here = leaf;
            int most = Math.min(steps, STRIDE);
            for (int i = 0; i < most && here != ABSENT; i++) {
                here = findLowest(here, side);
            }
            return here;
        }

        int divideAllTooLarge() {
            int divided = 0;
            int leaf = 0;
            for (int step = 0; step < MAX_BALANCE_STEPS && leaf < division.count; step++) {
                if (!isTooLarge(leaf)) {
                    leaf++;
                    continue;
                }
                int back = findLowestAround(leaf);
                if (!division.divide(leaf)) {
                    break;
                }
                divided++;
                leaf = back;
            }
            return divided;
        }

        /** No leaf with a lower number than this becomes too large when the leaf is divided. */
        private int findLowestAround(int leaf) {
            int lowest = leaf;
            for (int side = 0; side < SIDES; side++) {
                int beyond = findLowest(leaf, side);
                if (beyond != ABSENT) {
                    lowest = Math.min(lowest, beyond);
                }
            }
            return lowest;
        }

        private boolean isTooLarge(int leaf) {
            for (int side = 0; side < SIDES; side++) {
                findBeyond(leaf, side);
                for (int i = 0; i < count; i++) {
                    if (2 * division.sideOf(found[i]) < division.sideOf(leaf)) {
                        return true;
                    }
                }
            }
            return false;
        }
    }
}
