/** The boundary cases of the promises 14 to 19: the range, its intervals, coverings and clusters. */
public final class BoundaryRangeTest extends BoundaryCases {
    /** The edges of a range for a grid with the side n. */
    private interface Edges {
        int[] of(int n);
    }

    private BoundaryRangeTest() {
    }

    public static void main(String[] args) {
        leftIsInTheGrid();
        belowIsInTheGrid();
        rightIsFromLeft();
        aboveIsFromBelow();
        extremeEdges();
        numberOfCells();
        edgesBelongToTheRange();
        rangeIsOneOnly();
        wholeGridIsOneInterval();
        oneCellIsOneInterval();
        intervalsAreTheLongestRows();
        intervalsAtBothEndsOfTheCurve();
        mostIntervals();
        numbersOfIntervals();
        firstAndLastOfAnInterval();
        intervalsFollowTheCurve();
        kIs1OrMore();
        atMostKAtFirst();
        oneMoreThanK();
        shortestGapIsJoined();
        lowestOfSeveralGapsIsJoined();
        gapsLieBetweenIntervals();
        extraChangesNothing();
        kOfCovering();
        numbersOfCovering();
        kComesBeforeTheInterval();
        firstAndLastOfCovering();
        widthIsFrom1ToN();
        heightIsFrom1ToN();
        smallestAndGreatestSize();
        allRectanglesAreCounted();
        clustersDoNotAskForTheRange();
        Check.end();
    }

    private static void refusedRange(int m, int[] edges) {
        refusedIn(() -> withRange(m), "setRange(" + edges[0] + ", " + edges[1] + ", " + edges[2] + ", " + edges[3]
                + ")", x -> x.setRange(edges[0], edges[1], edges[2], edges[3]), BAD_VALUE);
    }

    private static void refusedOnEachGrid(Edges edges) {
        for (int m = 1; m <= 6; m++) {
            refusedRange(m, edges.of(1 << m));
        }
    }

    /** A range that is not the whole grid. */
    private static CurveOrders withRange(int m) {
        CurveOrders x = withPoints(m);
        x.setRange(1, 0, (1 << m) - 1, 0);
        return x;
    }

    /** Six intervals, 3, 6 to 7, 9, 12 to 13, 18 and 24, with gaps of 2, 1, 2, 4 and 5 indices. */
    private static CurveOrders sixIntervals() {
        CurveOrders x = new CurveOrders();
        x.setRange(1, 1, 4, 2);
        return x;
    }

    /** The indices 0, 2, 8, 10, 32, 34, 40 and 42, with gaps of 1, 5, 1, 21, 1, 5 and 1 indices. */
    private static CurveOrders leftColumn() {
        CurveOrders x = new CurveOrders();
        x.setRange(0, 0, 0, 7);
        return x;
    }

    private static void intervalsAre(CurveOrders x, int[][] due) {
        due("intervals()", x.intervals(), due.length);
        for (int i = 0; i < due.length; i++) {
            due("interval(" + i + ", false)", x.interval(i, false), due[i][0]);
            due("interval(" + i + ", true)", x.interval(i, true), due[i][1]);
        }
    }

    private static void coveringIs(CurveOrders x, int k, int[][] due) {
        for (int i = 0; i < due.length; i++) {
            due("covering(" + k + ", " + i + ", false)", x.covering(k, i, false), due[i][0]);
            due("covering(" + k + ", " + i + ", true)", x.covering(k, i, true), due[i][1]);
        }
        due("covering(" + k + ", " + due.length + ", false)", x.covering(k, due.length, false), BAD_INDEX);
    }

    // promise 14

    private static void leftIsInTheGrid() {
        sentence(14, "left: the smallest x, 0 to n - 1");
        refusedOnEachGrid(n -> new int[] {-1, 0, n - 1, n - 1});
        refusedOnEachGrid(n -> new int[] {n, 0, n, 0});
        refusedOnEachGrid(n -> new int[] {n, 0, n - 1, n - 1});
        due("setRange(0, 0, 7, 7)", busy().setRange(0, 0, 7, 7), 64);
        due("setRange(7, 0, 7, 7)", busy().setRange(7, 0, 7, 7), 8);
    }

    private static void belowIsInTheGrid() {
        sentence(14, "below: the smallest y, 0 to n - 1");
        refusedOnEachGrid(n -> new int[] {0, -1, n - 1, n - 1});
        refusedOnEachGrid(n -> new int[] {0, n, 0, n});
        refusedOnEachGrid(n -> new int[] {0, n, n - 1, n - 1});
        due("setRange(0, 7, 7, 7)", busy().setRange(0, 7, 7, 7), 8);
    }

    private static void rightIsFromLeft() {
        sentence(14, "right: the greatest x, left to n - 1");
        refusedOnEachGrid(n -> new int[] {0, 0, n, 0});
        refusedOnEachGrid(n -> new int[] {0, 0, n, n - 1});
        refusedOnEachGrid(n -> new int[] {0, 0, -1, 0});
        refusedOnEachGrid(n -> new int[] {1, 0, 0, n - 1});
        refusedOnEachGrid(n -> new int[] {n - 1, 0, n - 2, n - 1});
        due("setRange(3, 0, 3, 0)", busy().setRange(3, 0, 3, 0), 1);
        due("setRange(3, 0, 7, 0)", busy().setRange(3, 0, 7, 0), 5);
    }

    private static void aboveIsFromBelow() {
        sentence(14, "above: the greatest y, below to n - 1");
        refusedOnEachGrid(n -> new int[] {0, 0, 0, n});
        refusedOnEachGrid(n -> new int[] {0, 0, n - 1, n});
        refusedOnEachGrid(n -> new int[] {0, 0, 0, -1});
        refusedOnEachGrid(n -> new int[] {0, 1, n - 1, 0});
        refusedOnEachGrid(n -> new int[] {0, n - 1, n - 1, n - 2});
        due("setRange(0, 3, 0, 3)", busy().setRange(0, 3, 0, 3), 1);
        due("setRange(0, 3, 0, 7)", busy().setRange(0, 3, 0, 7), 5);
    }

    private static void extremeEdges() {
        sentence(14, "Returns the number of its cells; BAD_VALUE.");
        int[][] rows = {{MIN, 0, MAX, 0}, {0, MIN, 0, MAX}, {MIN, MIN, MAX, MAX}, {MAX, MAX, MIN, MIN}, {MIN, 0, 0, 0},
            {0, MIN, 0, 0}, {0, 0, MAX, 0}, {0, 0, 0, MAX}, {0, 0, MIN, 0}, {0, 0, 0, MIN}, {MAX, 0, MAX, 0},
            {0, MAX, 0, MAX}, {-1, -1, -1, -1}, {64, 0, 64, 0}, {8, 8, 8, 8}, {2, 2, 1, 1}};
        for (int[] row : rows) {
            refused("setRange(" + row[0] + ", " + row[1] + ", " + row[2] + ", " + row[3] + ")",
                    x -> x.setRange(row[0], row[1], row[2], row[3]), BAD_VALUE);
        }
    }

    private static void numberOfCells() {
        sentence(14, "Returns the number of its cells");
        for (int m = 1; m <= 6; m++) {
            CurveOrders x = withCurve(m, HILBERT);
            int last = (1 << m) - 1;
            due("setRange of the first cell, m " + m, x.setRange(0, 0, 0, 0), 1);
            due("setRange of the last cell, m " + m, x.setRange(last, last, last, last), 1);
            due("setRange of the lowest row, m " + m, x.setRange(0, 0, last, 0), last + 1);
            due("setRange of the right column, m " + m, x.setRange(last, 0, last, last), last + 1);
            due("setRange of all cells, m " + m, x.setRange(0, 0, last, last), (last + 1L) * (last + 1));
        }
    }

    private static void edgesBelongToTheRange() {
        sentence(DESCRIPTION, "from a smallest to a greatest x and y (these belong to it)");
        CurveOrders x = new CurveOrders();
        x.setRange(2, 3, 5, 6);
        boolean[] inside = new boolean[64];
        for (int i = 0; i < x.intervals(); i++) {
            for (int index = x.interval(i, false); index <= x.interval(i, true); index++) {
                inside[index] = true;
            }
        }
        for (int column = 0; column < 8; column++) {
            for (int row = 0; row < 8; row++) {
                boolean wanted = column >= 2 && column <= 5 && row >= 3 && row <= 6;
                due("cell " + column + ", " + row, inside[x.index(column, row)] ? 1 : 0, wanted ? 1 : 0);
            }
        }
    }

    private static void rangeIsOneOnly() {
        sentence(14, "Sets the range.");
        CurveOrders x = sixIntervals();
        x.addPoint(0, 0);
        x.setRange(7, 7, 7, 7);
        intervalsAre(x, new int[][] {{63, 63}});
        due("points()", x.points(), 1);
        x = unbalanced();
        x.balance();
        x.setRange(0, 0, 7, 7);
        due("leaves(), which stay balanced", x.leaves(), 13);
    }

    // promises 15 and 16

    private static void wholeGridIsOneInterval() {
        sentence(15, "Returns the number of intervals of the range.");
        for (int m = 1; m <= 6; m++) {
            intervalsAre(withCurve(m, HILBERT), new int[][] {{0, (1 << (2 * m)) - 1}});
            intervalsAre(withTable(m, "03120000;"), new int[][] {{0, (1 << (2 * m)) - 1}});
        }
    }

    private static void oneCellIsOneInterval() {
        sentence(16, "last: true for its last index, false for its first one");
        for (int index : new int[] {0, 1, 31, 62, 63}) {
            CurveOrders x = withCurve(3, HILBERT);
            int column = x.cell(index, false);
            int row = x.cell(index, true);
            x.setRange(column, row, column, row);
            intervalsAre(x, new int[][] {{index, index}});
        }
    }

    private static void intervalsAreTheLongestRows() {
        sentence(DESCRIPTION, "Its intervals are the longest rows of successive indices whose cells all belong to the "
                + "range, in ascending order, numbered from 0.");
        CurveOrders x = new CurveOrders();
        x.setRange(0, 0, 7, 3);
        intervalsAre(x, new int[][] {{0, 31}});
        x.setRange(0, 0, 7, 1);
        intervalsAre(x, new int[][] {{0, 7}, {16, 23}});
        x.setRange(0, 1, 7, 2);
        intervalsAre(x, new int[][] {{2, 3}, {6, 9}, {12, 13}, {18, 19}, {22, 25}, {28, 29}});
    }

    private static void intervalsAtBothEndsOfTheCurve() {
        sentence(DESCRIPTION, "the longest rows of successive indices whose cells all belong to the range");
        CurveOrders x = withCurve(3, HILBERT);
        x.setRange(0, 0, 7, 0);
        due("the first interval begins with the first index", x.interval(0, false), 0);
        due("the last interval ends with the last index", x.interval(x.intervals() - 1, true), 63);
        x.setRange(0, 7, 7, 7);
        due("the first interval begins later", x.interval(0, false), x.index(0, 7));
        due("the last interval ends earlier", x.interval(x.intervals() - 1, true), x.index(7, 7));
    }

    private static void mostIntervals() {
        sentence(15, "Returns the number of intervals of the range.");
        CurveOrders x = withCurve(6, MORTON);
        x.setRange(31, 0, 31, 63);
        due("intervals() of a column", x.intervals(), 64);
        due("interval(63, true)", x.interval(63, true), x.index(31, 63));
        due("interval(64, true)", x.interval(64, true), BAD_INDEX);
        x = withTable(6, "21030022;21301121;03121022;");
        due("setRange(1, 1, 62, 62)", x.setRange(1, 1, 62, 62), 3844);
        due("intervals() of all but the edges", x.intervals(), 229);
        due("interval(228, true)", x.interval(228, true), 4094);
        due("interval(229, true)", x.interval(229, true), BAD_INDEX);
        due("extra(1)", x.extra(1), x.interval(228, true) - x.interval(0, false) + 1 - 3844);
    }

    private static void numbersOfIntervals() {
        sentence(16, "interval: the number of an interval");
        for (int interval : new int[] {-1, 6, 7, MIN, MAX}) {
            refusedIn(BoundaryRangeTest::sixIntervals, "interval(" + interval + ", false)",
                    x -> x.interval(interval, false), BAD_INDEX);
            refusedIn(BoundaryRangeTest::sixIntervals, "interval(" + interval + ", true)",
                    x -> x.interval(interval, true), BAD_INDEX);
        }
        refusedIn(CurveOrders::new, "interval(1, true) of the whole grid", x -> x.interval(1, true), BAD_INDEX);
        refused("interval(64, false)", x -> x.interval(64, false), BAD_INDEX);
        CurveOrders x = sixIntervals();
        due("interval(0, true)", x.interval(0, true), 3);
        due("interval(5, true)", x.interval(5, true), 24);
        x.setRange(0, 0, 0, 0);
        due("interval(5, true) when there are fewer", x.interval(5, true), BAD_INDEX);
    }

    private static void firstAndLastOfAnInterval() {
        sentence(16, "Returns this index");
        intervalsAre(sixIntervals(), new int[][] {{3, 3}, {6, 7}, {9, 9}, {12, 13}, {18, 18}, {24, 24}});
        intervalsAre(leftColumn(), new int[][] {{0, 0}, {2, 2}, {8, 8}, {10, 10}, {32, 32}, {34, 34}, {40, 40},
            {42, 42}});
    }

    private static void intervalsFollowTheCurve() {
        sentence(15, "Returns the number of intervals of the range.");
        CurveOrders x = withText("23010000;");
        x.setRange(0, 0, 3, 0);
        intervalsAre(x, new int[][] {{0, 1}, {4, 5}});
        x.save(0);
        x.setCurve(HILBERT);
        intervalsAre(x, new int[][] {{0, 0}, {3, 5}});
        x.read();
        intervalsAre(x, new int[][] {{42, 43}, {46, 47}});
        x.restore(0);
        intervalsAre(x, new int[][] {{0, 1}, {4, 5}});
        x.setLevels(2);
        intervalsAre(x, new int[][] {{0, 15}});
    }

    // promises 17 and 18

    private static void kIs1OrMore() {
        sentence(17, "k: 1 or more");
        for (int k : new int[] {0, -1, MIN}) {
            refused("extra(" + k + ")", x -> x.extra(k), BAD_VALUE);
            refusedIn(BoundaryRangeTest::sixIntervals, "extra(" + k + ")", x -> x.extra(k), BAD_VALUE);
        }
        due("extra(1)", sixIntervals().extra(1), 14);
        due("extra(MAX)", sixIntervals().extra(MAX), 0);
    }

    private static void atMostKAtFirst() {
        sentence(DESCRIPTION, "(if there are at most k at first, nothing is joined)");
        int[][] due = {{3, 3}, {6, 7}, {9, 9}, {12, 13}, {18, 18}, {24, 24}};
        for (int k : new int[] {6, 7, 64, 4096, MAX}) {
            CurveOrders x = sixIntervals();
            due("extra(" + k + ")", x.extra(k), 0);
            coveringIs(x, k, due);
        }
        CurveOrders x = new CurveOrders();
        due("extra(1) of the whole grid", x.extra(1), 0);
        coveringIs(x, 1, new int[][] {{0, 63}});
        coveringIs(x, 2, new int[][] {{0, 63}});
        x.setRange(5, 5, 5, 5);
        due("extra(1) of one cell", x.extra(1), 0);
        coveringIs(x, 1, new int[][] {{51, 51}});
    }

    private static void oneMoreThanK() {
        sentence(DESCRIPTION, "as long as there are more than k of them");
        CurveOrders x = sixIntervals();
        due("extra(5)", x.extra(5), 1);
        coveringIs(x, 5, new int[][] {{3, 3}, {6, 9}, {12, 13}, {18, 18}, {24, 24}});
        due("extra(2)", x.extra(2), 9);
        coveringIs(x, 2, new int[][] {{3, 18}, {24, 24}});
        due("extra(1)", x.extra(1), 14);
        coveringIs(x, 1, new int[][] {{3, 24}});
    }

    private static void shortestGapIsJoined() {
        sentence(DESCRIPTION, "the shortest gap, of several the one with the lowest indices, is joined with the two "
                + "intervals around it");
        CurveOrders x = new CurveOrders();
        x.setRange(0, 1, 7, 2);
        // 2 to 3, 6 to 9, 12 to 13, 18 to 19, 22 to 25, 28 to 29: gaps of 2, 2, 4, 2 and 2 indices
        coveringIs(x, 5, new int[][] {{2, 9}, {12, 13}, {18, 19}, {22, 25}, {28, 29}});
        coveringIs(x, 4, new int[][] {{2, 13}, {18, 19}, {22, 25}, {28, 29}});
        coveringIs(x, 3, new int[][] {{2, 13}, {18, 25}, {28, 29}});
        coveringIs(x, 2, new int[][] {{2, 13}, {18, 29}});
        coveringIs(x, 1, new int[][] {{2, 29}});
        x.setCurve(HILBERT);
        x.setRange(0, 0, 7, 0);
        // 0, 3 to 5, 58 to 60, 63: the first and the last gap are the shortest
        coveringIs(x, 3, new int[][] {{0, 5}, {58, 60}, {63, 63}});
        coveringIs(x, 2, new int[][] {{0, 5}, {58, 63}});
    }

    private static void lowestOfSeveralGapsIsJoined() {
        sentence(DESCRIPTION, "of several the one with the lowest indices");
        CurveOrders x = leftColumn();
        coveringIs(x, 7, new int[][] {{0, 2}, {8, 8}, {10, 10}, {32, 32}, {34, 34}, {40, 40}, {42, 42}});
        coveringIs(x, 6, new int[][] {{0, 2}, {8, 10}, {32, 32}, {34, 34}, {40, 40}, {42, 42}});
        coveringIs(x, 5, new int[][] {{0, 2}, {8, 10}, {32, 34}, {40, 40}, {42, 42}});
        coveringIs(x, 4, new int[][] {{0, 2}, {8, 10}, {32, 34}, {40, 42}});
        coveringIs(x, 3, new int[][] {{0, 10}, {32, 34}, {40, 42}});
        coveringIs(x, 2, new int[][] {{0, 10}, {32, 42}});
        coveringIs(x, 1, new int[][] {{0, 42}});
        int[] extras = {35, 14, 9, 4, 3, 2, 1, 0};
        for (int k = 1; k <= 8; k++) {
            due("extra(" + k + ")", x.extra(k), extras[k - 1]);
        }
    }

    private static void gapsLieBetweenIntervals() {
        sentence(DESCRIPTION, "The gaps are the rows of indices between two successive intervals.");
        CurveOrders x = new CurveOrders();
        x.setRange(1, 1, 1, 1);
        due("extra(1) of a cell amidst the curve", x.extra(1), 0);
        x.setRange(3, 3, 4, 4);
        // the indices 15, 26, 37 and 48: nothing before the first and nothing behind the last is covered
        due("extra(1)", x.extra(1), 30);
        coveringIs(x, 1, new int[][] {{15, 48}});
        due("extra(3)", x.extra(3), 10);
        coveringIs(x, 3, new int[][] {{15, 26}, {37, 37}, {48, 48}});
    }

    private static void extraChangesNothing() {
        sentence(17, "Covers the range with at most k intervals.");
        CurveOrders x = sixIntervals();
        long sum = x.checksum();
        x.extra(1);
        x.covering(2, 0, true);
        due("checksum()", x.checksum(), sum);
        due("intervals()", x.intervals(), 6);
        due("extra(6)", x.extra(6), 0);
    }

    private static void kOfCovering() {
        sentence(18, "k: 1 or more");
        for (int k : new int[] {0, -1, MIN}) {
            refused("covering(" + k + ", 0, false)", x -> x.covering(k, 0, false), BAD_VALUE);
            refused("covering(" + k + ", 0, true)", x -> x.covering(k, 0, true), BAD_VALUE);
        }
        due("covering(1, 0, true)", sixIntervals().covering(1, 0, true), 24);
        due("covering(MAX, 0, true)", sixIntervals().covering(MAX, 0, true), 3);
    }

    private static void numbersOfCovering() {
        sentence(18, "interval: the number of an interval, counted from 0, if the range is covered with at most k "
                + "intervals");
        for (int k : new int[] {1, 2, 5, 6, 7, MAX}) {
            int beyond = Math.min(k, 6);
            for (int interval : new int[] {-1, beyond, beyond + 1, MIN, MAX}) {
                refusedIn(BoundaryRangeTest::sixIntervals, "covering(" + k + ", " + interval + ", true)",
                        x -> x.covering(k, interval, true), BAD_INDEX);
                refusedIn(BoundaryRangeTest::sixIntervals, "covering(" + k + ", " + interval + ", false)",
                        x -> x.covering(k, interval, false), BAD_INDEX);
            }
            due("covering(" + k + ", 0, false)", sixIntervals().covering(k, 0, false), 3);
            due("covering(" + k + ", " + (beyond - 1) + ", true)", sixIntervals().covering(k, beyond - 1, true), 24);
        }
        refused("covering(1, 1, false)", x -> x.covering(1, 1, false), BAD_INDEX);
    }

    private static void kComesBeforeTheInterval() {
        sentence(18, "Returns this index; BAD_VALUE; BAD_INDEX.");
        for (int interval : new int[] {-1, 64, MIN, MAX}) {
            refused("covering(0, " + interval + ", true)", x -> x.covering(0, interval, true), BAD_VALUE);
            refused("covering(MIN, " + interval + ", true)", x -> x.covering(MIN, interval, true), BAD_VALUE);
        }
    }

    private static void firstAndLastOfCovering() {
        sentence(18, "last: true for its last index, false for its first one");
        CurveOrders x = sixIntervals();
        coveringIs(x, 3, new int[][] {{3, 13}, {18, 18}, {24, 24}});
        coveringIs(x, 4, new int[][] {{3, 9}, {12, 13}, {18, 18}, {24, 24}});
    }

    // promise 19

    private static void widthIsFrom1ToN() {
        sentence(19, "width: 1 to n");
        for (int m = 1; m <= 6; m++) {
            int levels = m;
            int n = 1 << m;
            for (int width : new int[] {0, -1, n + 1, MIN, MAX}) {
                refusedIn(() -> withPoints(levels), "clusters(" + width + ", 1)", x -> x.clusters(width, 1), BAD_VALUE);
                refusedIn(() -> withPoints(levels), "clusters(" + width + ", n)", x -> x.clusters(width, n), BAD_VALUE);
            }
            CurveOrders x = withCurve(m, MORTON);
            due("clusters(1, n), m " + m, x.clusters(1, n), (long) n * n);
            due("clusters(n, 1), m " + m, x.clusters(n, 1), (long) n * n / 2);
        }
    }

    private static void heightIsFrom1ToN() {
        sentence(19, "height: 1 to n");
        for (int m = 1; m <= 6; m++) {
            int levels = m;
            int n = 1 << m;
            for (int height : new int[] {0, -1, n + 1, MIN, MAX}) {
                refusedIn(() -> withPoints(levels), "clusters(1, " + height + ")", x -> x.clusters(1, height), BAD_VALUE);
                refusedIn(() -> withPoints(levels), "clusters(n, " + height + ")", x -> x.clusters(n, height), BAD_VALUE);
            }
            CurveOrders x = withTable(m, "02130000;");
            due("clusters(n, 1), m " + m, x.clusters(n, 1), (long) n * n);
            due("clusters(1, n), m " + m, x.clusters(1, n), (long) n * n / 2);
        }
        refused("clusters(9, 9)", x -> x.clusters(9, 9), BAD_VALUE);
        refused("clusters(0, 0)", x -> x.clusters(0, 0), BAD_VALUE);
    }

    private static void smallestAndGreatestSize() {
        sentence(19, "Returns the sum of their numbers");
        for (int m = 1; m <= 6; m++) {
            int n = 1 << m;
            CurveOrders x = withCurve(m, HILBERT);
            due("clusters(1, 1), m " + m, x.clusters(1, 1), (long) n * n);
            due("clusters(n, n), m " + m, x.clusters(n, n), 1);
            // of the pairs of cells side by side, those with successive indices are one interval instead of two
            long pairs = 2L * n * (n - 1);
            due("clusters(2, 1) and clusters(1, 2), m " + m, x.clusters(2, 1) + (long) x.clusters(1, 2),
                    2 * pairs - (n * n - 1L));
        }
    }

    private static void allRectanglesAreCounted() {
        sentence(19, "Counts the intervals of all rectangles of a size together.");
        CurveOrders x = withCurve(1, MORTON);
        due("clusters(2, 1) with m 1", x.clusters(2, 1), 2);
        due("clusters(1, 2) with m 1", x.clusters(1, 2), 4);
        x = withCurve(2, MORTON);
        // the rows 0, 1, 4, 5 and 2, 3, 6, 7 and 8, 9, 12, 13 and 10, 11, 14, 15
        due("clusters(4, 1)", x.clusters(4, 1), 8);
        due("clusters(1, 4)", x.clusters(1, 4), 16);
        // three by three cells at the four corners
        due("clusters(3, 3)", x.clusters(3, 3), countThreeByThree());
        due("clusters(4, 4)", x.clusters(4, 4), 1);
    }

    private static int countThreeByThree() {
        int sum = 0;
        for (int left = 0; left < 2; left++) {
            for (int below = 0; below < 2; below++) {
                CurveOrders x = withCurve(2, MORTON);
                x.setRange(left, below, left + 2, below + 2);
                sum += x.intervals();
            }
        }
        return sum;
    }

    private static void clustersDoNotAskForTheRange() {
        sentence(19, "all rectangles of a size");
        CurveOrders x = withCurve(2, MORTON);
        x.setRange(1, 1, 1, 1);
        due("clusters(4, 1)", x.clusters(4, 1), 8);
        due("intervals()", x.intervals(), 1);
        due("interval(0, true)", x.interval(0, true), 3);
    }
}
