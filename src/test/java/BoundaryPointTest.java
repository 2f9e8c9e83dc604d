/** The boundary cases of the promises 20 to 24: the points and the bucket. */
public final class BoundaryPointTest extends BoundaryCases {
    private BoundaryPointTest() {
    }

    public static void main(String[] args) {
        pointsAreAddedInTheGrid();
        pointIsThereAlready();
        fortyPoints();
        noCellAmongFortyPoints();
        pointThereAmongFortyPoints();
        numberOfPointsThen();
        addedPointMakesTheDivisionAnew();
        pointsAreRemovedInTheGrid();
        noPointThere();
        noCellComesBeforeNoPoint();
        numberOfPointsLeft();
        removedPointMakesTheDivisionAnew();
        numberOfPoints();
        nearestIsAskedInTheGrid();
        nearestOfNoPoints();
        noCellComesBeforeNone();
        lowerOfTwoNearest();
        nearestAtBothEndsOfTheCurve();
        nearestDiffersLeast();
        nearestIsAlongTheCurve();
        bucketIsFrom1To8();
        previousBucket();
        asManyPointsAsTheBucketAllows();
        squareOfOneCell();
        bucketMakesTheDivisionAnew();
        Check.end();
    }

    private static CurveOrders withCells(int m, int[][] cells) {
        CurveOrders x = withCurve(m, MORTON);
        for (int[] cell : cells) {
            x.addPoint(cell[0], cell[1]);
        }
        return x;
    }

    /** So many points, row by row from below. */
    private static CurveOrders withCount(int count) {
        CurveOrders x = new CurveOrders();
        for (int i = 0; i < count; i++) {
            x.addPoint(i % 8, i / 8);
        }
        return x;
    }

    // promise 20

    private static void pointsAreAddedInTheGrid() {
        sentence(20, "x: 0 to n - 1");
        refusedColumns("addPoint", CurveOrders::addPoint);
        sentence(20, "y: 0 to n - 1");
        refusedRows("addPoint", CurveOrders::addPoint);
        for (int m = 1; m <= 6; m++) {
            int last = (1 << m) - 1;
            CurveOrders x = withCurve(m, MORTON);
            due("addPoint(0, 0), m " + m, x.addPoint(0, 0), 1);
            due("addPoint(n - 1, 0), m " + m, x.addPoint(last, 0), 2);
            due("addPoint(0, n - 1), m " + m, x.addPoint(0, last), 3);
            due("addPoint(n - 1, n - 1), m " + m, x.addPoint(last, last), 4);
        }
    }

    private static void pointIsThereAlready() {
        sentence(20, "NOT_POSSIBLE if there is a point in this cell");
        refusedIn(BoundaryCases::busy, "addPoint(1, 1)", x -> x.addPoint(1, 1), NOT_POSSIBLE);
        refusedIn(BoundaryCases::busy, "addPoint(3, 0)", x -> x.addPoint(3, 0), NOT_POSSIBLE);
        refusedIn(() -> withPoints(6), "addPoint(63, 63)", x -> x.addPoint(63, 63), NOT_POSSIBLE);
        refusedIn(() -> withPoints(1), "addPoint(0, 0)", x -> x.addPoint(0, 0), NOT_POSSIBLE);
        CurveOrders x = withCells(3, new int[][] {{2, 5}});
        due("addPoint(5, 2)", x.addPoint(5, 2), 2);
        x.removePoint(2, 5);
        due("addPoint(2, 5) when it is gone", x.addPoint(2, 5), 2);
        due("addPoint(2, 5) again", x.addPoint(2, 5), NOT_POSSIBLE);
    }

    private static void fortyPoints() {
        sentence(20, "FULL if there are 40 points");
        due("addPoint of the last one", withCount(39).addPoint(7, 7), 40);
        refusedIn(() -> withCount(40), "addPoint(7, 7)", x -> x.addPoint(7, 7), FULL);
        refusedIn(BoundaryCases::crowded, "addPoint(0, 5)", x -> x.addPoint(0, 5), FULL);
        CurveOrders x = withCount(40);
        x.addPoint(7, 7);
        x.removePoint(0, 0);
        due("addPoint(7, 7) when there is room", x.addPoint(7, 7), 40);
        due("addPoint(0, 0) when there is none again", x.addPoint(0, 0), FULL);
    }

    private static void noCellAmongFortyPoints() {
        sentence(20, "Returns the number of points then; BAD_INDEX; NOT_POSSIBLE");
        refusedIn(BoundaryCases::crowded, "addPoint(8, 0)", x -> x.addPoint(8, 0), BAD_INDEX);
        refusedIn(BoundaryCases::crowded, "addPoint(0, 8)", x -> x.addPoint(0, 8), BAD_INDEX);
        refusedIn(BoundaryCases::crowded, "addPoint(-1, 7)", x -> x.addPoint(-1, 7), BAD_INDEX);
        refusedIn(BoundaryCases::crowded, "addPoint(7, MIN)", x -> x.addPoint(7, MIN), BAD_INDEX);
        // as a number of a row of 64 cells it would be the cell (0, 1), which has a point
        refusedIn(BoundaryCases::crowded, "addPoint(64, 0)", x -> x.addPoint(64, 0), BAD_INDEX);
    }

    private static void pointThereAmongFortyPoints() {
        sentence(20, "NOT_POSSIBLE if there is a point in this cell; FULL if there are 40 points");
        refusedIn(BoundaryCases::crowded, "addPoint(0, 0)", x -> x.addPoint(0, 0), NOT_POSSIBLE);
        refusedIn(BoundaryCases::crowded, "addPoint(7, 4)", x -> x.addPoint(7, 4), NOT_POSSIBLE);
    }

    private static void numberOfPointsThen() {
        sentence(20, "Returns the number of points then");
        CurveOrders x = new CurveOrders();
        for (int i = 1; i <= 40; i++) {
            due("addPoint", x.addPoint(i % 8, i / 8), i);
        }
    }

    private static void addedPointMakesTheDivisionAnew() {
        sentence(DESCRIPTION, "which each call does that changes m, the curve, the points or the bucket (also if "
                + "nothing becomes different)");
        CurveOrders x = unbalanced();
        x.balance();
        x.addPoint(7, 7);
        due("leaves() after addPoint", x.leaves(), 10);
        x.balance();
        due("leaves() balanced again", x.leaves(), 13);
        x.addPoint(7, 7);
        due("leaves() after a refused addPoint", x.leaves(), 13);
    }

    // promises 21 and 22

    private static void pointsAreRemovedInTheGrid() {
        sentence(21, "x: 0 to n - 1");
        refusedColumns("removePoint", CurveOrders::removePoint);
        sentence(21, "y: 0 to n - 1");
        refusedRows("removePoint", CurveOrders::removePoint);
        for (int m = 1; m <= 6; m++) {
            int last = (1 << m) - 1;
            CurveOrders x = withCells(m, new int[][] {{0, 0}, {last, 0}, {0, last}, {last, last}});
            due("removePoint(0, 0), m " + m, x.removePoint(0, 0), 3);
            due("removePoint(n - 1, 0), m " + m, x.removePoint(last, 0), 2);
            due("removePoint(0, n - 1), m " + m, x.removePoint(0, last), 1);
            due("removePoint(n - 1, n - 1), m " + m, x.removePoint(last, last), 0);
        }
    }

    private static void noPointThere() {
        sentence(21, "NOT_POSSIBLE if there is no point in this cell");
        refused("removePoint(7, 7)", x -> x.removePoint(7, 7), NOT_POSSIBLE);
        refusedIn(CurveOrders::new, "removePoint(0, 0)", x -> x.removePoint(0, 0), NOT_POSSIBLE);
        refusedIn(() -> withCells(3, new int[][] {{2, 5}}), "removePoint(5, 2)", x -> x.removePoint(5, 2),
                NOT_POSSIBLE);
        CurveOrders x = withCells(3, new int[][] {{0, 0}, {7, 7}});
        x.removePoint(7, 7);
        due("removePoint(7, 7) again", x.removePoint(7, 7), NOT_POSSIBLE);
        due("removePoint(0, 0)", x.removePoint(0, 0), 0);
        due("removePoint(0, 0) again", x.removePoint(0, 0), NOT_POSSIBLE);
    }

    private static void noCellComesBeforeNoPoint() {
        sentence(21, "Returns the number of points that are left; BAD_INDEX; NOT_POSSIBLE");
        refusedIn(CurveOrders::new, "removePoint(8, 0)", x -> x.removePoint(8, 0), BAD_INDEX);
        refusedIn(CurveOrders::new, "removePoint(0, -1)", x -> x.removePoint(0, -1), BAD_INDEX);
    }

    private static void numberOfPointsLeft() {
        sentence(21, "Returns the number of points that are left");
        CurveOrders x = withCount(40);
        for (int i = 39; i >= 0; i--) {
            int cell = i * 7 % 40;
            due("removePoint", x.removePoint(cell % 8, cell / 8), i);
        }
        due("leaves()", x.leaves(), 1);
        due("nearest(0, 0)", x.nearest(0, 0), NONE);
    }

    private static void removedPointMakesTheDivisionAnew() {
        sentence(DESCRIPTION, "the points or the bucket (also if nothing becomes different)");
        CurveOrders x = unbalanced();
        x.addPoint(7, 7);
        x.balance();
        due("leaves() balanced", x.leaves(), 13);
        x.removePoint(7, 6);
        due("leaves() after a refused removePoint", x.leaves(), 13);
        x.removePoint(7, 7);
        due("leaves() after removePoint", x.leaves(), 10);
        x.removePoint(2, 0);
        due("leaves() with one point", x.leaves(), 1);
    }

    private static void numberOfPoints() {
        sentence(22, "Returns the number of points.");
        due("points() of none", new CurveOrders().points(), 0);
        due("points() of one", withCount(1).points(), 1);
        due("points() of 40", withCount(40).points(), 40);
        CurveOrders x = withCount(41);
        due("points() after a refused one", x.points(), 40);
        x.removePoint(0, 0);
        due("points() after removePoint", x.points(), 39);
    }

    // promise 23

    private static void nearestIsAskedInTheGrid() {
        sentence(23, "x: 0 to n - 1");
        refusedColumns("nearest", CurveOrders::nearest);
        sentence(23, "y: 0 to n - 1");
        refusedRows("nearest", CurveOrders::nearest);
        for (int m = 1; m <= 6; m++) {
            int n = 1 << m;
            CurveOrders x = withPoints(m);
            due("nearest(0, 0), m " + m, x.nearest(0, 0), 0);
            due("nearest(n - 1, n - 1), m " + m, x.nearest(n - 1, n - 1), n * n - 1L);
            due("nearest(n - 1, 0), m " + m, x.nearest(n - 1, 0), 1);
        }
    }

    private static void nearestOfNoPoints() {
        sentence(23, "NONE if there are no points");
        due("nearest(0, 0)", new CurveOrders().nearest(0, 0), NONE);
        due("nearest(7, 7)", new CurveOrders().nearest(7, 7), NONE);
        CurveOrders x = withCells(3, new int[][] {{3, 3}});
        due("nearest(0, 0) of one point", x.nearest(0, 0), 15);
        x.removePoint(3, 3);
        due("nearest(0, 0) when it is gone", x.nearest(0, 0), NONE);
    }

    private static void noCellComesBeforeNone() {
        sentence(DESCRIPTION, "NONE is not an error and is returned only if no error applies.");
        refusedIn(CurveOrders::new, "nearest(8, 0)", x -> x.nearest(8, 0), BAD_INDEX);
        refusedIn(CurveOrders::new, "nearest(0, -1)", x -> x.nearest(0, -1), BAD_INDEX);
    }

    private static void lowerOfTwoNearest() {
        sentence(23, "of two such points the one with the lower index");
        // the indices 10 and 14; 12 is that of the cell (2, 2)
        due("nearest(2, 2)", withCells(3, new int[][] {{0, 3}, {2, 3}}).nearest(2, 2), 10);
        due("nearest(2, 2), added the other way about", withCells(3, new int[][] {{2, 3}, {0, 3}}).nearest(2, 2), 10);
        due("nearest(3, 2), which is 13", withCells(3, new int[][] {{0, 3}, {2, 3}}).nearest(3, 2), 14);
        due("nearest(1, 3), which is 11", withCells(3, new int[][] {{2, 3}, {0, 3}}).nearest(1, 3), 10);
        due("nearest(1, 0), between 0 and 2", withCells(1, new int[][] {{0, 1}, {0, 0}}).nearest(1, 0), 0);
    }

    private static void nearestAtBothEndsOfTheCurve() {
        sentence(23, "Finds the point that is nearest along the curve");
        CurveOrders x = withCells(6, new int[][] {{63, 63}, {0, 0}});
        due("nearest(0, 0)", x.nearest(0, 0), 0);
        due("nearest(63, 63)", x.nearest(63, 63), 4095);
        due("nearest of 2047", x.nearest(63, 31), 0);
        due("nearest of 2048", x.nearest(0, 32), 4095);
        x.removePoint(0, 0);
        due("nearest(0, 0) of the last index alone", x.nearest(0, 0), 4095);
    }

    private static void nearestDiffersLeast() {
        sentence(23, "whose index differs least from that of a cell");
        CurveOrders x = withCells(3, new int[][] {{0, 0}, {7, 7}, {3, 3}, {4, 4}});
        // the indices 0, 63, 15 and 48
        due("nearest of its own cell", x.nearest(3, 3), 15);
        due("nearest of 7", x.nearest(3, 1), 0);
        due("nearest of 8", x.nearest(0, 2), 15);
        due("nearest of 31", x.nearest(7, 3), 15);
        due("nearest of 32", x.nearest(0, 4), 48);
        due("nearest of 55", x.nearest(7, 5), 48);
        due("nearest of 56", x.nearest(4, 6), 63);
    }

    private static void nearestIsAlongTheCurve() {
        sentence(23, "Returns the index of the point");
        CurveOrders x = withCells(3, new int[][] {{7, 0}, {0, 7}});
        due("nearest(0, 0) of MORTON", x.nearest(0, 0), 21);
        due("nearest(7, 7) of MORTON", x.nearest(7, 7), 42);
        x.setCurve(HILBERT);
        due("nearest(0, 0) of HILBERT", x.nearest(0, 0), 21);
        due("nearest(7, 7) of HILBERT, whose index is 42", x.nearest(7, 7), 21);
        due("nearest(6, 0) of HILBERT", x.nearest(6, 0), 63);
    }

    // promise 24

    private static void bucketIsFrom1To8() {
        sentence(24, "bucket: 1 to 8");
        for (int bucket : new int[] {0, 9, -1, 40, MIN, MAX}) {
            refused("setBucket(" + bucket + ")", x -> x.setBucket(bucket), BAD_VALUE);
        }
        due("setBucket(1)", new CurveOrders().setBucket(1), 2);
        due("setBucket(8)", new CurveOrders().setBucket(8), 2);
    }

    private static void previousBucket() {
        sentence(24, "Returns the previous bucket");
        CurveOrders x = new CurveOrders();
        int previous = 2;
        for (int bucket : new int[] {1, 1, 8, 8, 2, 3, 4, 5, 6, 7}) {
            due("setBucket(" + bucket + ")", x.setBucket(bucket), previous);
            previous = bucket;
        }
        x.setBucket(9);
        due("setBucket(7) after a refused one", x.setBucket(7), 7);
    }

    private static void asManyPointsAsTheBucketAllows() {
        sentence(DESCRIPTION, "it is divided into its four quarters if it has more points than the bucket allows");
        for (int bucket = 1; bucket <= 8; bucket++) {
            CurveOrders x = new CurveOrders();
            x.setBucket(bucket);
            for (int i = 0; i < bucket; i++) {
                x.addPoint(i % 4 * 2, i / 4 * 4);
            }
            due("leaves() with " + bucket + " points", x.leaves(), 1);
            x.addPoint(7, 7);
            due("leaves() with one more than " + bucket, x.leaves() > 1 ? 1 : 0, 1);
            x.removePoint(0, 0);
            due("leaves() with " + bucket + " points again", x.leaves(), 1);
        }
    }

    private static void squareOfOneCell() {
        sentence(DESCRIPTION, "and is more than one cell; the quarters are divided likewise");
        for (int m = 1; m <= 6; m++) {
            CurveOrders x = withCells(m, new int[][] {{0, 0}, {1, 1}});
            x.setBucket(1);
            due("leaves(), m " + m, x.leaves(), 3L * m + 1);
            due("leaf(0, 2), m " + m, x.leaf(0, 2), 1);
            due("leaf(0, 3), m " + m, x.leaf(0, 3), 1);
            due("leaf(3, 3), m " + m, x.leaf(3, 3), 1);
        }
        CurveOrders x = withCells(1, new int[][] {{0, 0}, {0, 1}, {1, 0}, {1, 1}});
        x.setBucket(1);
        due("leaves() of a grid whose cells all have a point", x.leaves(), 4);
    }

    private static void bucketMakesTheDivisionAnew() {
        sentence(DESCRIPTION, "or the bucket (also if nothing becomes different)");
        CurveOrders x = unbalanced();
        x.balance();
        x.setBucket(9);
        due("leaves() after a refused setBucket", x.leaves(), 13);
        x.setBucket(1);
        due("leaves() after setBucket of the same", x.leaves(), 10);
        x.setBucket(2);
        due("leaves() after setBucket of more", x.leaves(), 1);
        x.setBucket(1);
        due("leaves() after setBucket of fewer", x.leaves(), 10);
    }
}
