/** The boundary cases of the promises 25 to 32: leaves, neighbours, balancing and walks. */
public final class BoundaryLeafTest extends BoundaryCases {
    /** The sevenLeaves are 0 and 1, above them 2 and 3; 4 at the right, 5 above and 6 across the corner. */
    private static final int[] NO_LEAVES = {-1, 7, 8, MIN, MAX};
    private static final int[] NO_SIDES = {-1, 4, 5, MIN, MAX};
    /** The leaves of the twentyPairs, and how many of them balancing divides: those that PlainOrders has. */
    private static final int LEAVES_OF_PAIRS = 238;
    private static final int DIVIDED_OF_PAIRS = 65;

    /** A call that is told a leaf and a side. */
    private interface SideCall {
        long on(CurveOrders x, int leaf, int side);
    }

    private BoundaryLeafTest() {
    }

    public static void main(String[] args) {
        leavesOfNoPoints();
        mostLeaves();
        leavesAreInTheOrderOfTheCurve();
        numbersOfLeaves();
        whatIsFrom0To4();
        noLeafComesBeforeWhat();
        numbersOfTheOnlyLeaf();
        smallestIndexOfALeaf();
        leafIsAskedInTheGrid();
        leafThatHasTheCell();
        leavesAndSidesOfNeighbours();
        noNeighboursAtTheEdge();
        noNeighboursAcrossCorners();
        neighboursOfDifferentSizes();
        mostNeighbours();
        leavesAndSidesOfNeighbour();
        rankIsNegative();
        notSoManyNeighbours();
        errorsComeBeforeNoNeighbour();
        neighbourWithTheLowestNumber();
        nothingToBalance();
        halfIsEnough();
        lessThanHalf();
        balanceGoesOn();
        lowestNumberIsDividedFirst();
        balancedLeavesStay();
        balancedLeavesGo();
        leavesAndSidesOfWalk();
        walkOfNoSteps();
        longestWalk();
        walkToTheLowestNumber();
        leavesAndSidesOfWalked();
        stepsAreNegative();
        walkDoesNotHaveSoManySteps();
        errorsComeBeforeNoSteps();
        noStepsAndAllSteps();
        Check.end();
    }

    private static void refusedLeaves(int promise, String name, SideCall call) {
        sentence(promise, "leaf: the number of a leaf");
        for (int leaf : NO_LEAVES) {
            refusedCall(name, call, leaf, 0);
            refusedCall(name, call, leaf, 3);
        }
        refusedIn(CurveOrders::new, name + " of leaf 1 of one", x -> call.on(x, 1, 0), BAD_INDEX);
        refused(name + " of leaf 64, side 0", x -> call.on(x, 64, 0), BAD_INDEX);
    }

    /** With those of no leaf either. */
    private static void refusedSides(int promise, String name, SideCall call) {
        sentence(promise, "side: 0 to 3");
        for (int side : NO_SIDES) {
            refusedCall(name, call, 0, side);
            refusedCall(name, call, 6, side);
        }
        refusedCall(name, call, -1, -1);
        refusedCall(name, call, 7, 4);
        refused(name + " of leaf 0, side 4", x -> call.on(x, 0, 4), BAD_INDEX);
    }

    private static void refusedCall(String name, SideCall call, int leaf, int side) {
        refusedIn(BoundaryCases::sevenLeaves, name + " of leaf " + leaf + ", side " + side,
                x -> call.on(x, leaf, side), BAD_INDEX);
    }

    /** Twenty pairs, each in the left lower corner of a square of the side 8. */
    private static CurveOrders twentyPairs() {
        CurveOrders x = withCurve(6, MORTON);
        x.setBucket(1);
        for (int i = 0; i < 20; i++) {
            int column = i * 11 % 64 % 8 * 8;
            int row = i * 11 % 64 / 8 * 8;
            x.addPoint(column, row);
            x.addPoint(column + 1, row);
        }
        return x;
    }

    private static CurveOrders pairAt(int m, int column, int row) {
        CurveOrders x = withCurve(m, MORTON);
        x.setBucket(1);
        x.addPoint(column, row);
        x.addPoint(column ^ 1, row);
        return x;
    }

    private static int sideAt(CurveOrders x, int column, int row) {
        return x.leaf(x.leafAt(column, row), 2);
    }

    private static void leafIs(CurveOrders x, int leaf, int... due) {
        for (int what = 0; what < 5; what++) {
            due("leaf(" + leaf + ", " + what + ")", x.leaf(leaf, what), due[what]);
        }
    }

    private static void neighboursAre(CurveOrders x, int leaf, int side, int... due) {
        due("neighbours(" + leaf + ", " + side + ")", x.neighbours(leaf, side), due.length);
        for (int rank = 0; rank < due.length; rank++) {
            due("neighbour(" + leaf + ", " + side + ", " + rank + ")", x.neighbour(leaf, side, rank), due[rank]);
        }
        due("neighbour(" + leaf + ", " + side + ", " + due.length + ")", x.neighbour(leaf, side, due.length), NONE);
    }

    private static void pathIs(CurveOrders x, int leaf, int side, int... due) {
        due("walk(" + leaf + ", " + side + ")", x.walk(leaf, side), due.length - 1);
        for (int steps = 0; steps < due.length; steps++) {
            due("walked(" + leaf + ", " + side + ", " + steps + ")", x.walked(leaf, side, steps), due[steps]);
        }
        due("walked(" + leaf + ", " + side + ", " + due.length + ")", x.walked(leaf, side, due.length), NONE);
    }

    // promises 25 to 27

    private static void leavesOfNoPoints() {
        sentence(DESCRIPTION, "A square that is not divided is a leaf.");
        for (int m = 1; m <= 6; m++) {
            due("leaves(), m " + m, withCurve(m, HILBERT).leaves(), 1);
        }
    }

    private static void mostLeaves() {
        sentence(25, "Returns the number of leaves.");
        CurveOrders x = twentyPairs();
        due("points()", x.points(), 40);
        due("leaves()", x.leaves(), LEAVES_OF_PAIRS);
        due("leaf of the last number", x.leaf(LEAVES_OF_PAIRS - 1, 0) >= 0 ? 1 : 0, 1);
        due("leaf of the next number", x.leaf(LEAVES_OF_PAIRS, 0), BAD_INDEX);
        due("balance()", x.balance(), DIVIDED_OF_PAIRS);
        int most = LEAVES_OF_PAIRS + 3 * DIVIDED_OF_PAIRS;
        due("leaves() balanced", x.leaves(), most);
        due("leafAt(63, 63)", x.leafAt(63, 63), most - 1);
        due("leaf of the next number", x.leaf(most, 0), BAD_INDEX);
    }

    private static void leavesAreInTheOrderOfTheCurve() {
        sentence(DESCRIPTION, "Leaves are numbered from 0 in the order in which the curve visits them.");
        CurveOrders x = sevenLeaves();
        leafIs(x, 0, 0, 0, 1, 1, 0);
        leafIs(x, 6, 2, 2, 2, 0, 12);
        x.setCurve(HILBERT);
        leafIs(x, 2, 1, 1, 1, 0, 2);
        leafIs(x, 6, 2, 0, 2, 0, 12);
        type(x, "32100000;");
        x.read();
        leafIs(x, 0, 2, 2, 2, 0, 0);
        leafIs(x, 6, 0, 0, 1, 1, 15);
    }

    private static void numbersOfLeaves() {
        sentence(26, "leaf: the number of a leaf");
        for (int leaf : NO_LEAVES) {
            for (int what = 0; what < 5; what++) {
                int asked = what;
                refusedIn(BoundaryCases::sevenLeaves, "leaf(" + leaf + ", " + what + ")", x -> x.leaf(leaf, asked),
                        BAD_INDEX);
            }
        }
        refusedIn(CurveOrders::new, "leaf(1, 0) of one leaf", x -> x.leaf(1, 0), BAD_INDEX);
        refused("leaf(-1, 0)", x -> x.leaf(-1, 0), BAD_INDEX);
        refused("leaf(64, 0)", x -> x.leaf(64, 0), BAD_INDEX);
        CurveOrders x = sevenLeaves();
        x.removePoint(0, 0);
        due("leaf(6, 0) when there are fewer", x.leaf(6, 0), BAD_INDEX);
        due("leaf(0, 0) when there are fewer", x.leaf(0, 0), 0);
    }

    private static void whatIsFrom0To4() {
        sentence(26, "what: 0 for its smallest x, 1 for its smallest y, 2 for its side, 3 for the number of its points, "
                + "4 for the smallest index of its cells");
        for (int what : new int[] {-1, 5, 6, MIN, MAX}) {
            refused("leaf(0, " + what + ")", x -> x.leaf(0, what), BAD_VALUE);
            refusedIn(BoundaryCases::sevenLeaves, "leaf(6, " + what + ")", x -> x.leaf(6, what), BAD_VALUE);
        }
        leafIs(sevenLeaves(), 4, 2, 0, 2, 0, 4);
        leafIs(sevenLeaves(), 1, 1, 0, 1, 1, 1);
    }

    private static void noLeafComesBeforeWhat() {
        sentence(26, "Returns this number; BAD_INDEX; BAD_VALUE.");
        for (int leaf : NO_LEAVES) {
            refusedIn(BoundaryCases::sevenLeaves, "leaf(" + leaf + ", 5)", x -> x.leaf(leaf, 5), BAD_INDEX);
            refusedIn(BoundaryCases::sevenLeaves, "leaf(" + leaf + ", -1)", x -> x.leaf(leaf, -1), BAD_INDEX);
        }
    }

    private static void numbersOfTheOnlyLeaf() {
        sentence(DESCRIPTION, "the whole grid is one");
        for (int m = 1; m <= 6; m++) {
            leafIs(withTable(m, "32100000;"), 0, 0, 0, 1 << m, 0, 0);
        }
        CurveOrders x = new CurveOrders();
        x.setBucket(8);
        for (int i = 0; i < 8; i++) {
            x.addPoint(i, 7 - i);
        }
        leafIs(x, 0, 0, 0, 8, 8, 0);
    }

    private static void smallestIndexOfALeaf() {
        sentence(26, "4 for the smallest index of its cells");
        CurveOrders x = withTable(2, "32100000;");
        x.setBucket(1);
        x.addPoint(3, 3);
        x.addPoint(2, 2);
        leafIs(x, 0, 3, 3, 1, 1, 0);
        leafIs(x, 3, 2, 2, 1, 1, 3);
        leafIs(x, 4, 0, 2, 2, 0, 4);
        leafIs(x, 6, 0, 0, 2, 0, 12);
    }

    private static void leafIsAskedInTheGrid() {
        sentence(27, "x: 0 to n - 1");
        refusedColumns("leafAt", CurveOrders::leafAt);
        sentence(27, "y: 0 to n - 1");
        refusedRows("leafAt", CurveOrders::leafAt);
        for (int m = 1; m <= 6; m++) {
            int last = (1 << m) - 1;
            CurveOrders x = withCurve(m, MORTON);
            x.setBucket(1);
            x.addPoint(0, 0);
            x.addPoint(last, last);
            due("leafAt(0, 0), m " + m, x.leafAt(0, 0), 0);
            due("leafAt(n - 1, 0), m " + m, x.leafAt(last, 0), 1);
            due("leafAt(0, n - 1), m " + m, x.leafAt(0, last), 2);
            due("leafAt(n - 1, n - 1), m " + m, x.leafAt(last, last), 3);
        }
    }

    private static void leafThatHasTheCell() {
        sentence(27, "Returns the number of the leaf that has this cell");
        int[][] due = {{0, 1, 4, 4}, {2, 3, 4, 4}, {5, 5, 6, 6}, {5, 5, 6, 6}};
        CurveOrders x = sevenLeaves();
        for (int row = 0; row < 4; row++) {
            for (int column = 0; column < 4; column++) {
                due("leafAt(" + column + ", " + row + ")", x.leafAt(column, row), due[row][column]);
            }
        }
        x.removePoint(0, 0);
        due("leafAt(3, 3) of one leaf", x.leafAt(3, 3), 0);
    }

    // promises 28 and 29

    private static void leavesAndSidesOfNeighbours() {
        refusedLeaves(28, "neighbours", CurveOrders::neighbours);
        refusedSides(28, "neighbours", CurveOrders::neighbours);
        due("neighbours(6, 0)", sevenLeaves().neighbours(6, 0), 1);
        due("neighbours(0, 3)", sevenLeaves().neighbours(0, 3), 1);
    }

    private static void noNeighboursAtTheEdge() {
        sentence(28, "Returns the number of its neighbours at this side");
        for (int m = 1; m <= 6; m++) {
            for (int side = 0; side < 4; side++) {
                neighboursAre(withCurve(m, HILBERT), 0, side);
            }
        }
        CurveOrders x = sevenLeaves();
        neighboursAre(x, 0, 0);
        neighboursAre(x, 0, 2);
        neighboursAre(x, 4, 1);
        neighboursAre(x, 4, 2);
        neighboursAre(x, 5, 0);
        neighboursAre(x, 5, 3);
        neighboursAre(x, 6, 1);
        neighboursAre(x, 6, 3);
    }

    private static void noNeighboursAcrossCorners() {
        sentence(DESCRIPTION, "the other leaves which have a part of this side, at least one unit long, in common with "
                + "it");
        CurveOrders x = sevenLeaves();
        // the cell 3 has but a corner in common with the leaf 6
        neighboursAre(x, 3, 1, 4);
        neighboursAre(x, 3, 3, 5);
        neighboursAre(x, 6, 0, 5);
        neighboursAre(x, 6, 2, 4);
        x = withCurve(1, MORTON);
        x.setBucket(1);
        x.addPoint(0, 0);
        x.addPoint(1, 1);
        neighboursAre(x, 0, 1, 1);
        neighboursAre(x, 0, 3, 2);
        neighboursAre(x, 3, 0, 2);
        neighboursAre(x, 3, 2, 1);
    }

    private static void neighboursOfDifferentSizes() {
        sentence(DESCRIPTION, "Sides are 0 (left), 1 (right), 2 (below) and 3 (above).");
        CurveOrders x = sevenLeaves();
        neighboursAre(x, 4, 0, 1, 3);
        neighboursAre(x, 5, 2, 2, 3);
        neighboursAre(x, 1, 1, 4);
        neighboursAre(x, 2, 3, 5);
        neighboursAre(x, 0, 1, 1);
        neighboursAre(x, 0, 3, 2);
        neighboursAre(x, 3, 0, 2);
        neighboursAre(x, 3, 2, 1);
    }

    private static void mostNeighbours() {
        sentence(28, "Returns the number of its neighbours at this side");
        CurveOrders x = withCurve(6, MORTON);
        x.setBucket(1);
        for (int i = 0; i < 16; i++) {
            x.addPoint(31, 2 * i);
            x.addPoint(31, 2 * i + 1);
        }
        int leaf = x.leafAt(32, 0);
        due("side of the leaf", x.leaf(leaf, 2), 32);
        due("neighbours at the left", x.neighbours(leaf, 0), 32);
        due("neighbour of rank 0", x.neighbour(leaf, 0, 0), x.leafAt(31, 0));
        due("neighbour of rank 31", x.neighbour(leaf, 0, 31), x.leafAt(31, 31));
        due("neighbour of rank 32", x.neighbour(leaf, 0, 32), NONE);
        due("neighbours of one of them", x.neighbours(x.leafAt(31, 31), 1), 1);
    }

    private static void leavesAndSidesOfNeighbour() {
        refusedLeaves(29, "neighbour of rank 0", (x, leaf, side) -> x.neighbour(leaf, side, 0));
        refusedSides(29, "neighbour of rank 0", (x, leaf, side) -> x.neighbour(leaf, side, 0));
        due("neighbour(6, 0, 0)", sevenLeaves().neighbour(6, 0, 0), 5);
        due("neighbour(0, 3, 0)", sevenLeaves().neighbour(0, 3, 0), 2);
    }

    private static void rankIsNegative() {
        sentence(29, "or rank is negative");
        refused("neighbour(0, 1, -1)", x -> x.neighbour(0, 1, -1), BAD_INDEX);
        refused("neighbour(0, 1, MIN)", x -> x.neighbour(0, 1, MIN), BAD_INDEX);
        refusedIn(BoundaryCases::sevenLeaves, "neighbour(4, 0, -1)", x -> x.neighbour(4, 0, -1), BAD_INDEX);
        due("neighbour(4, 0, 0)", sevenLeaves().neighbour(4, 0, 0), 1);
    }

    private static void notSoManyNeighbours() {
        sentence(29, "NONE if there are not so many neighbours");
        CurveOrders x = sevenLeaves();
        due("neighbour(4, 0, 1)", x.neighbour(4, 0, 1), 3);
        due("neighbour(4, 0, 2)", x.neighbour(4, 0, 2), NONE);
        due("neighbour(4, 0, 64)", x.neighbour(4, 0, 64), NONE);
        due("neighbour(4, 0, MAX)", x.neighbour(4, 0, MAX), NONE);
        due("neighbour(0, 0, 0)", x.neighbour(0, 0, 0), NONE);
        due("neighbour(0, 1, 1)", x.neighbour(0, 1, 1), NONE);
        due("neighbour(0, 1, 0) of one leaf", new CurveOrders().neighbour(0, 1, 0), NONE);
    }

    private static void errorsComeBeforeNoNeighbour() {
        sentence(29, "Returns the number of the neighbour; BAD_INDEX if there is no such leaf or side, or rank is "
                + "negative; NONE");
        refusedIn(BoundaryCases::sevenLeaves, "neighbour(7, 0, MAX)", x -> x.neighbour(7, 0, MAX), BAD_INDEX);
        refusedIn(BoundaryCases::sevenLeaves, "neighbour(0, 4, MAX)", x -> x.neighbour(0, 4, MAX), BAD_INDEX);
        // there is no neighbour at the left of the leaf 0
        refusedIn(BoundaryCases::sevenLeaves, "neighbour(0, 0, -1)", x -> x.neighbour(0, 0, -1), BAD_INDEX);
        refusedIn(CurveOrders::new, "neighbour(0, 0, -1)", x -> x.neighbour(0, 0, -1), BAD_INDEX);
    }

    private static void neighbourWithTheLowestNumber() {
        sentence(29, "rank: 0 for the neighbour with the lowest number, 1 for the next one, and so on");
        CurveOrders x = sevenLeaves();
        type(x, "32100000;");
        x.read();
        // the numbers descend from below upwards: 6 and 5 below, 4 and 3 above them
        neighboursAre(x, 2, 0, 3, 5);
        neighboursAre(x, 1, 2, 3, 4);
    }

    // promise 30

    private static void nothingToBalance() {
        sentence(30, "Returns the number of leaves that were divided.");
        for (int m = 1; m <= 6; m++) {
            due("balance() of one leaf, m " + m, withCurve(m, MORTON).balance(), 0);
        }
        CurveOrders x = unbalanced();
        due("balance()", x.balance(), 1);
        due("balance() again", x.balance(), 0);
        due("leaves()", x.leaves(), 13);
    }

    private static void halfIsEnough() {
        sentence(30, "a neighbour whose side is less than half of its own");
        CurveOrders x = sevenLeaves();
        due("balance() of the sides 1 and 2", x.balance(), 0);
        due("leaves()", x.leaves(), 7);
        x = pairAt(3, 0, 0);
        // the cells at the left below have but leaves of the side 2 beside them, and these the ones of the side 4
        due("balance() of the sides 1, 2 and 4", x.balance(), 0);
        due("leaves()", x.leaves(), 10);
    }

    private static void lessThanHalf() {
        sentence(30, "as long as a leaf has a neighbour whose side is less than half of its own");
        CurveOrders x = pairAt(3, 3, 0);
        due("balance() with small ones at the left", x.balance(), 1);
        due("side at (4, 0)", sideAt(x, 4, 0), 2);
        due("side at (0, 4)", sideAt(x, 0, 4), 4);
        x = pairAt(3, 4, 0);
        due("balance() with small ones at the right", x.balance(), 1);
        due("side at (0, 0)", sideAt(x, 0, 0), 2);
        x = pairAt(3, 0, 3);
        due("balance() with small ones below", x.balance(), 1);
        due("side at (0, 4)", sideAt(x, 0, 4), 2);
        x = pairAt(3, 0, 4);
        due("balance() with small ones above", x.balance(), 1);
        due("side at (0, 0)", sideAt(x, 0, 0), 2);
        x = pairAt(3, 3, 3);
        due("balance() with small ones at two sides, and one across the corner", x.balance(), 2);
        due("side at (4, 4)", sideAt(x, 4, 4), 4);
    }

    private static void balanceGoesOn() {
        sentence(30, "Balances the division: as long as");
        CurveOrders x = pairAt(4, 7, 0);
        due("balance() of a leaf and of a quarter of it", x.balance(), 2);
        due("side at (8, 0)", sideAt(x, 8, 0), 2);
        due("side at (12, 0)", sideAt(x, 12, 0), 4);
        due("side at (8, 4)", sideAt(x, 8, 4), 4);
        due("side at (0, 8)", sideAt(x, 0, 8), 8);
        x = pairAt(6, 31, 0);
        due("balance() from the side 32 to the side 2", x.balance(), 4);
        due("side at (32, 0)", sideAt(x, 32, 0), 2);
        due("side at (36, 0)", sideAt(x, 36, 0), 4);
        due("side at (40, 0)", sideAt(x, 40, 0), 8);
        due("side at (48, 0)", sideAt(x, 48, 0), 16);
        due("side at (0, 32)", sideAt(x, 0, 32), 32);
        due("balance() again", x.balance(), 0);
    }

    private static void lowestNumberIsDividedFirst() {
        sentence(30, "the one of these leaves with the lowest number is divided into its quarters");
        // the leaf 0 becomes too large only when others, with higher numbers, have been divided
        CurveOrders x = pairAt(4, 8, 8);
        due("balance()", x.balance(), 5);
        due("side at (0, 0)", sideAt(x, 0, 0), 4);
        due("side at (0, 8)", sideAt(x, 0, 8), 4);
        due("side at (4, 8)", sideAt(x, 4, 8), 2);
        due("balance() again", x.balance(), 0);
        // the leaf beside the small ones is divided first, then the one behind it, whose number is lower
        lowerLeafFollows(states(1), 12, 0, 0, 0);
        lowerLeafFollows(states(1), 0, 12, 0, 0);
        lowerLeafFollows("32100000;", 3, 0, 8, 0);
        lowerLeafFollows("32100000;", 0, 3, 0, 8);
    }

    private static void lowerLeafFollows(String curve, int column, int row, int lowerColumn, int lowerRow) {
        CurveOrders x = pairAt(4, column, row);
        type(x, curve);
        x.read();
        due("side at first", sideAt(x, lowerColumn, lowerRow), 8);
        due("balance() with small ones at (" + column + ", " + row + ")", x.balance(), 2);
        due("side at last", sideAt(x, lowerColumn, lowerRow), 4);
        due("balance() again", x.balance(), 0);
    }

    private static void balancedLeavesStay() {
        sentence(DESCRIPTION, "Leaves can also be divided by balancing; then their quarters are leaves");
        CurveOrders x = unbalanced();
        x.balance();
        x.setRange(1, 1, 2, 2);
        type(x, "01");
        x.clearText();
        x.save(1);
        x.checksum();
        x.clusters(2, 2);
        x.nearest(5, 5);
        x.walk(0, 1);
        due("leaves() after calls that change none of these", x.leaves(), 13);
        leafIs(x, 7, 4, 0, 2, 0, 16);
        leafIs(x, 10, 6, 2, 2, 0, 28);
        leafIs(x, 11, 0, 4, 4, 0, 32);
    }

    private static void balancedLeavesGo() {
        sentence(DESCRIPTION, "until the division is made anew, which each call does that changes m, the curve, the "
                + "points or the bucket (also if nothing becomes different)");
        CurveOrders x = unbalanced();
        x.balance();
        x.setCurve(MORTON);
        due("leaves() after setCurve of the same", x.leaves(), 10);
        x.balance();
        x.setCurve(HILBERT);
        due("leaves() after setCurve", x.leaves(), 10);
        x.balance();
        x.setBucket(1);
        due("leaves() after setBucket of the same", x.leaves(), 10);
        x.balance();
        x.setLevels(3);
        due("leaves() after setLevels of the same", x.leaves(), 1);
    }

    // promises 31 and 32

    private static void leavesAndSidesOfWalk() {
        refusedLeaves(31, "walk", CurveOrders::walk);
        refusedSides(31, "walk", CurveOrders::walk);
        due("walk(6, 0)", sevenLeaves().walk(6, 0), 1);
        due("walk(0, 3)", sevenLeaves().walk(0, 3), 2);
    }

    private static void walkOfNoSteps() {
        sentence(31, "as long as there is one");
        for (int side = 0; side < 4; side++) {
            pathIs(new CurveOrders(), 0, side, 0);
        }
        CurveOrders x = sevenLeaves();
        pathIs(x, 0, 0, 0);
        pathIs(x, 0, 2, 0);
        pathIs(x, 6, 1, 6);
        pathIs(x, 6, 3, 6);
    }

    private static void longestWalk() {
        sentence(31, "Walks from a leaf: in each step, to the neighbour with the lowest number at a side");
        CurveOrders x = withCurve(6, MORTON);
        x.setBucket(1);
        for (int i = 0; i < 20; i++) {
            // sixteen squares of the side 4 along the lowest row, and once more the first four
            int column = i < 16 ? 4 * i : 4 * (i - 16) + 2;
            x.addPoint(column, 0);
            x.addPoint(column + 1, 0);
        }
        due("walk to the right", x.walk(x.leafAt(0, 0), 1), 51);
        due("walked to its end", x.walked(x.leafAt(0, 0), 1, 51), x.leafAt(63, 0));
        due("walked beyond its end", x.walked(x.leafAt(0, 0), 1, 52), NONE);
        due("walk to the left", x.walk(x.leafAt(63, 0), 0), 51);
        due("walked back", x.walked(x.leafAt(63, 0), 0, 51), x.leafAt(0, 0));
    }

    private static void walkToTheLowestNumber() {
        sentence(31, "to the neighbour with the lowest number at a side");
        CurveOrders x = sevenLeaves();
        pathIs(x, 4, 0, 4, 1, 0);
        pathIs(x, 5, 2, 5, 2, 0);
        type(x, "32100000;");
        x.read();
        pathIs(x, 2, 0, 2, 3, 4);
        pathIs(x, 1, 2, 1, 3, 5);
    }

    private static void leavesAndSidesOfWalked() {
        for (int told : new int[] {0, 1}) {
            refusedLeaves(32, "walked of " + told + " steps", (x, leaf, side) -> x.walked(leaf, side, told));
            refusedSides(32, "walked of " + told + " steps", (x, leaf, side) -> x.walked(leaf, side, told));
        }
        due("walked(6, 0, 1)", sevenLeaves().walked(6, 0, 1), 5);
        due("walked(0, 3, 1)", sevenLeaves().walked(0, 3, 1), 2);
    }

    private static void stepsAreNegative() {
        sentence(32, "or steps is negative");
        refused("walked(0, 1, -1)", x -> x.walked(0, 1, -1), BAD_INDEX);
        refused("walked(0, 1, MIN)", x -> x.walked(0, 1, MIN), BAD_INDEX);
        refusedIn(BoundaryCases::sevenLeaves, "walked(4, 0, -1)", x -> x.walked(4, 0, -1), BAD_INDEX);
    }

    private static void walkDoesNotHaveSoManySteps() {
        sentence(32, "NONE if the walk does not have so many steps");
        CurveOrders x = sevenLeaves();
        due("walked(0, 1, 2)", x.walked(0, 1, 2), 4);
        due("walked(0, 1, 3)", x.walked(0, 1, 3), NONE);
        due("walked(0, 1, 64)", x.walked(0, 1, 64), NONE);
        due("walked(0, 1, MAX)", x.walked(0, 1, MAX), NONE);
        due("walked(0, 0, 1)", x.walked(0, 0, 1), NONE);
        due("walked(0, 0, 1) of one leaf", new CurveOrders().walked(0, 0, 1), NONE);
    }

    private static void errorsComeBeforeNoSteps() {
        sentence(32, "Returns the number of the leaf after so many steps of the walk; BAD_INDEX if there is no such "
                + "leaf or side, or steps is negative; NONE");
        refusedIn(BoundaryCases::sevenLeaves, "walked(7, 0, MAX)", x -> x.walked(7, 0, MAX), BAD_INDEX);
        refusedIn(BoundaryCases::sevenLeaves, "walked(0, 4, MAX)", x -> x.walked(0, 4, MAX), BAD_INDEX);
        refusedIn(BoundaryCases::sevenLeaves, "walked(0, 0, -1)", x -> x.walked(0, 0, -1), BAD_INDEX);
    }

    private static void noStepsAndAllSteps() {
        sentence(32, "steps: 0 or more");
        CurveOrders x = sevenLeaves();
        for (int leaf = 0; leaf < 7; leaf++) {
            for (int side = 0; side < 4; side++) {
                due("walked(" + leaf + ", " + side + ", 0)", x.walked(leaf, side, 0), leaf);
                int steps = x.walk(leaf, side);
                int end = x.walked(leaf, side, steps);
                due("neighbours of the end of walk(" + leaf + ", " + side + ")", x.neighbours(end, side), 0);
                due("one step more", x.walked(leaf, side, steps + 1), NONE);
            }
        }
    }
}
