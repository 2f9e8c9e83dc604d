/** The boundary cases of the promises 1 to 9: a new object, the grid and the curves. */
public final class BoundaryCurveTest extends BoundaryCases {
    private BoundaryCurveTest() {
    }

    public static void main(String[] args) {
        newGrid();
        newCurve();
        newRange();
        newBucket();
        newPoints();
        newText();
        newSlots();
        newObjectsShareNothing();
        levelsAreFrom1To6();
        sideOfEachGrid();
        previousLevels();
        levelsMakeRangeWhole();
        levelsRemovePoints();
        levelsKeepTheRest();
        curveIsFromMortonToTable();
        previousCurve();
        tableIsAsMortonAtFirst();
        tableIsThatOfTheLastText();
        curveHas1To8States();
        numberOfStates();
        visitOfNoState();
        visitOfNoPlace();
        visitOfSmallestAndGreatest();
        wholeGridIsVisitedInState0();
        columnsOfIndex();
        rowsOfIndex();
        coordinatesAfterChangeOfLevels();
        indicesOfCells();
        indexIsThatOfOneCell();
        xGrowsToTheRight();
        breaksFromFirstToLast();
        breaksAcrossCorners();
        breaksAcrossEndsOfRows();
        noBreaks();
        stretchAtEachSide();
        stretchIsNotAroundTheGrid();
        Check.end();
    }

    // promise 1

    private static void newGrid() {
        sentence(DESCRIPTION, "with m from 1 to 6, at first 3");
        CurveOrders x = new CurveOrders();
        due("index(7, 7)", x.index(7, 7), 63);
        due("index(8, 7)", x.index(8, 7), BAD_INDEX);
        due("setLevels(3)", x.setLevels(3), 3);
    }

    private static void newCurve() {
        sentence(DESCRIPTION, "MORTON (0), as at first");
        CurveOrders x = new CurveOrders();
        due("index(1, 0)", x.index(1, 0), 1);
        due("index(0, 1)", x.index(0, 1), 2);
        due("setCurve(MORTON)", x.setCurve(MORTON), MORTON);
    }

    private static void newRange() {
        sentence(DESCRIPTION, "The range is a rectangle of cells, at first the whole grid");
        CurveOrders x = new CurveOrders();
        due("intervals()", x.intervals(), 1);
        due("interval(0, false)", x.interval(0, false), 0);
        due("interval(0, true)", x.interval(0, true), 63);
    }

    private static void newBucket() {
        sentence(DESCRIPTION, "from 1 to 8, at first 2");
        CurveOrders x = new CurveOrders();
        x.addPoint(0, 0);
        x.addPoint(7, 7);
        due("leaves() with two points", x.leaves(), 1);
        x.addPoint(7, 0);
        due("leaves() with three points", x.leaves(), 4);
        due("setBucket(2)", x.setBucket(2), 2);
    }

    private static void newPoints() {
        sentence(1, "without points");
        CurveOrders x = new CurveOrders();
        due("points()", x.points(), 0);
        due("nearest(0, 0)", x.nearest(0, 0), NONE);
        due("leaves()", x.leaves(), 1);
        due("leaf(0, 3)", x.leaf(0, 3), 0);
        due("removePoint(0, 0)", x.removePoint(0, 0), NOT_POSSIBLE);
    }

    private static void newText() {
        sentence(1, "with an empty text");
        CurveOrders x = new CurveOrders();
        due("faultPosition()", x.faultPosition(), 0);
        due("read()", x.read(), NOT_POSSIBLE);
        due("clearText()", x.clearText(), 0);
        due("append(0)", x.append(0), 1);
    }

    private static void newSlots() {
        sentence(1, "empty slots");
        CurveOrders x = new CurveOrders();
        due("restore(0)", x.restore(0), NOT_POSSIBLE);
        due("restore(1)", x.restore(1), NOT_POSSIBLE);
    }

    private static void newObjectsShareNothing() {
        sentence(1, "Creates a workbench with everything as at first");
        long sum = new CurveOrders().checksum();
        CurveOrders full = crowded();
        CurveOrders x = new CurveOrders();
        full.setCurve(MORTON);
        due("checksum()", x.checksum(), sum);
        due("clearText()", x.clearText(), 0);
        due("restore(0)", x.restore(0), NOT_POSSIBLE);
        x.setCurve(TABLE);
        due("states() of TABLE", x.states(), 1);
        due("visit(0, 3) of TABLE", x.visit(0, 3), 30);
    }

    // promise 2

    private static void levelsAreFrom1To6() {
        sentence(2, "m: 1 to 6");
        for (int m : new int[] {0, 7, -1, 8, 32, 33, 38, MIN, MIN + 3, MAX}) {
            refused("setLevels(" + m + ")", x -> x.setLevels(m), BAD_VALUE);
        }
        due("setLevels(1)", new CurveOrders().setLevels(1), 3);
        due("setLevels(6)", new CurveOrders().setLevels(6), 3);
    }

    private static void sideOfEachGrid() {
        sentence(DESCRIPTION, "The grid has the side n = 2 to the power of m");
        for (int m = 1; m <= 6; m++) {
            CurveOrders x = withCurve(m, MORTON);
            int n = 1 << m;
            due("index of the last cell, m " + m, x.index(n - 1, n - 1), n * n - 1L);
            due("index beyond, m " + m, x.index(n, 0), BAD_INDEX);
            due("leaf(0, 2), m " + m, x.leaf(0, 2), n);
        }
    }

    private static void previousLevels() {
        sentence(2, "Returns the previous m");
        CurveOrders x = new CurveOrders();
        int previous = 3;
        for (int m : new int[] {6, 6, 1, 1, 2, 5, 4, 3}) {
            due("setLevels(" + m + ")", x.setLevels(m), previous);
            previous = m;
        }
        x.setLevels(7);
        due("setLevels(3) after a refused one", x.setLevels(3), 3);
    }

    private static void levelsMakeRangeWhole() {
        sentence(2, "The range becomes the whole grid");
        for (int m = 1; m <= 6; m++) {
            CurveOrders x = new CurveOrders();
            x.setRange(3, 5, 3, 6);
            x.setLevels(m);
            due("intervals(), m " + m, x.intervals(), 1);
            due("interval(0, false), m " + m, x.interval(0, false), 0);
            due("interval(0, true), m " + m, x.interval(0, true), (1 << (2 * m)) - 1);
        }
    }

    private static void levelsRemovePoints() {
        sentence(2, "all points are removed");
        for (int m = 1; m <= 6; m++) {
            CurveOrders x = crowded();
            x.setLevels(m);
            due("points(), m " + m, x.points(), 0);
            due("nearest(0, 0), m " + m, x.nearest(0, 0), NONE);
            due("leaves(), m " + m, x.leaves(), 1);
            due("addPoint(1, 1), m " + m, x.addPoint(1, 1), 1);
        }
    }

    private static void levelsKeepTheRest() {
        sentence(2, "Sets m.");
        CurveOrders x = busy();
        x.setLevels(6);
        due("setBucket(1)", x.setBucket(1), 1);
        due("clearText()", x.clearText(), 7);
        due("setCurve(TABLE)", x.setCurve(TABLE), HILBERT);
        due("visit(0, 0) of TABLE", x.visit(0, 0), 10);
        due("restore(0)", x.restore(0), 1);
        due("points() of the slot", x.points(), 1);
    }

    // promises 3 to 5

    private static void curveIsFromMortonToTable() {
        sentence(3, "curve: MORTON to TABLE");
        for (int curve : new int[] {-1, 3, 4, MIN, MAX}) {
            refused("setCurve(" + curve + ")", x -> x.setCurve(curve), BAD_VALUE);
        }
        due("setCurve(0)", new CurveOrders().setCurve(0), MORTON);
        due("setCurve(1)", new CurveOrders().setCurve(1), MORTON);
        due("setCurve(2)", new CurveOrders().setCurve(2), MORTON);
    }

    private static void previousCurve() {
        sentence(3, "Returns the previous curve");
        CurveOrders x = new CurveOrders();
        int previous = MORTON;
        for (int curve : new int[] {MORTON, HILBERT, HILBERT, TABLE, TABLE, MORTON, TABLE, HILBERT, MORTON}) {
            due("setCurve(" + curve + ")", x.setCurve(curve), previous);
            previous = curve;
        }
        x.setCurve(3);
        due("setCurve(MORTON) after a refused one", x.setCurve(MORTON), MORTON);
    }

    private static void tableIsAsMortonAtFirst() {
        sentence(DESCRIPTION, "it is as MORTON as long as none has been read");
        CurveOrders x = withText("3210");
        x.read();
        x.setCurve(HILBERT);
        x.setCurve(TABLE);
        due("states()", x.states(), 1);
        for (int place = 0; place < 4; place++) {
            due("visit(0, " + place + ")", x.visit(0, place), 10L * place);
        }
        due("index(7, 0)", x.index(7, 0), 21);
        due("index(0, 7)", x.index(0, 7), 42);
    }

    private static void tableIsThatOfTheLastText() {
        sentence(DESCRIPTION, "that of the text that was read last");
        CurveOrders x = withTable(3, "32101111;01230000;");
        x.clearText();
        type(x, "10320000;");
        due("visit(0, 0) before the next read()", x.visit(0, 0), 31);
        x.read();
        due("visit(0, 0) after it", x.visit(0, 0), 10);
        due("visit(1, 0) after it", x.visit(1, 0), BAD_INDEX);
        type(x, "x");
        x.read();
        due("visit(0, 0) after a refused read()", x.visit(0, 0), 10);
        x.clearText();
        due("visit(0, 0) without the text", x.visit(0, 0), 10);
    }

    private static void curveHas1To8States() {
        sentence(DESCRIPTION, "A curve has 1 to 8 states, numbered from 0.");
        due("states() of MORTON", new CurveOrders().states(), 1);
        due("states() of HILBERT", withCurve(3, HILBERT).states(), 4);
        for (int count = 1; count <= 8; count++) {
            CurveOrders x = withTable(3, states(count));
            due("states() of " + count, x.states(), count);
            due("visit(0, 0) of " + count, x.visit(0, 0), 0);
            due("visit of the last of " + count, x.visit(count - 1, 3), 30);
        }
        due("setCurve(TABLE) after nine were not read", withTable(3, states(9)).setCurve(TABLE), MORTON);
    }

    private static void numberOfStates() {
        sentence(4, "Returns the number of states of the curve.");
        CurveOrders x = withText(states(8));
        due("states() of MORTON", x.states(), 1);
        x.setCurve(TABLE);
        due("states() of TABLE at first", x.states(), 1);
        x.setCurve(HILBERT);
        due("states() of HILBERT", x.states(), 4);
        x.read();
        due("states() of the most", x.states(), 8);
        x.setCurve(HILBERT);
        due("states() of HILBERT again", x.states(), 4);
        x.setCurve(TABLE);
        due("states() of TABLE again", x.states(), 8);
        x.setLevels(1);
        due("states() of a grid that needs but one", x.states(), 8);
    }

    private static void visitOfNoState() {
        sentence(5, "state: a state of the curve");
        for (int state : new int[] {-1, 8, 1 << 30, 1 << 29, MIN, MAX}) {
            refused("visit(" + state + ", 0)", x -> x.visit(state, 0), BAD_INDEX);
        }
        refused("visit(-1, 4)", x -> x.visit(-1, 4), BAD_INDEX);
        refusedIn(CurveOrders::new, "visit(1, 0) of MORTON", x -> x.visit(1, 0), BAD_INDEX);
        refusedIn(() -> withCurve(3, TABLE), "visit(1, 0) of TABLE at first", x -> x.visit(1, 0), BAD_INDEX);
        refusedIn(() -> withCurve(3, HILBERT), "visit(4, 0) of HILBERT", x -> x.visit(4, 0), BAD_INDEX);
        due("visit(3, 3) of HILBERT", withCurve(3, HILBERT).visit(3, 3), 21);
        for (int count = 1; count <= 8; count++) {
            int none = count;
            refusedIn(() -> withTable(3, states(none)), "visit(" + none + ", 0)", x -> x.visit(none, 0), BAD_INDEX);
        }
    }

    private static void visitOfNoPlace() {
        sentence(5, "place: 0 to 3");
        for (int place : new int[] {-1, 4, 5, MIN, MAX}) {
            refused("visit(0, " + place + ")", x -> x.visit(0, place), BAD_INDEX);
        }
        refusedIn(() -> withCurve(3, HILBERT), "visit(1, -1)", x -> x.visit(1, -1), BAD_INDEX);
        refusedIn(() -> withCurve(3, HILBERT), "visit(2, 4)", x -> x.visit(2, 4), BAD_INDEX);
        due("visit(1, 0)", withCurve(3, HILBERT).visit(1, 0), 0);
        due("visit(1, 3)", withCurve(3, HILBERT).visit(1, 3), 23);
    }

    private static void visitOfSmallestAndGreatest() {
        sentence(5, "Returns 10 * the quarter at this place + the state in which it is visited");
        CurveOrders x = withTable(3, "30127007;".repeat(8));
        due("visit(0, 0)", x.visit(0, 0), 37);
        due("visit(0, 1)", x.visit(0, 1), 0);
        due("visit(7, 2)", x.visit(7, 2), 10);
        due("visit(7, 3)", x.visit(7, 3), 27);
    }

    private static void wholeGridIsVisitedInState0() {
        sentence(DESCRIPTION, "The whole grid is visited in state 0; a quarter that is more than one cell is visited "
                + "in its state likewise.");
        String text = "01321111;32102222;20313333;01230000;";
        CurveOrders x = withTable(1, text);
        due("index(1, 1), m 1", x.index(1, 1), 2);
        due("index(0, 1), m 1", x.index(0, 1), 3);
        x = withTable(2, text);
        due("index(1, 1), m 2", x.index(1, 1), 0);
        due("index(0, 2), m 2", x.index(0, 2), 15);
        x = withTable(3, text);
        due("index(2, 3), m 3", x.index(2, 3), 0);
        due("index(1, 4), m 3", x.index(1, 4), 63);
    }

    // promises 6 and 7

    private static void columnsOfIndex() {
        sentence(6, "x: 0 to n - 1");
        refusedColumns("index", CurveOrders::index);
        for (int m = 1; m <= 6; m++) {
            CurveOrders x = withCurve(m, MORTON);
            int last = (1 << m) - 1;
            due("index(0, 0), m " + m, x.index(0, 0), 0);
            due("index(n - 1, 0), m " + m, x.index(last, 0), (last + 2L) * last / 3);
        }
    }

    private static void rowsOfIndex() {
        sentence(6, "y: 0 to n - 1");
        refusedRows("index", CurveOrders::index);
        for (int m = 1; m <= 6; m++) {
            CurveOrders x = withCurve(m, MORTON);
            int last = (1 << m) - 1;
            due("index(0, n - 1), m " + m, x.index(0, last), (last + 2L) * last / 3 * 2);
            due("index(n - 1, n - 1), m " + m, x.index(last, last), (last + 2L) * last);
        }
    }

    private static void coordinatesAfterChangeOfLevels() {
        sentence(DESCRIPTION, "A cell has the coordinates x and y, each from 0 to n - 1");
        CurveOrders x = withCurve(6, MORTON);
        x.save(0);
        x.setLevels(1);
        due("index(2, 0) of a smaller grid", x.index(2, 0), BAD_INDEX);
        due("cell(4, false) of a smaller grid", x.cell(4, false), BAD_INDEX);
        due("leafAt(0, 2) of a smaller grid", x.leafAt(0, 2), BAD_INDEX);
        x.save(1);
        x.restore(0);
        due("index(63, 63) of the restored grid", x.index(63, 63), 4095);
        due("cell(4095, true) of the restored grid", x.cell(4095, true), 63);
        x.restore(1);
        due("index(2, 0) of the restored smaller grid", x.index(2, 0), BAD_INDEX);
        due("addPoint(2, 0) of the restored smaller grid", x.addPoint(2, 0), BAD_INDEX);
    }

    private static void indicesOfCells() {
        sentence(7, "index: 0 to n * n - 1");
        for (int m = 1; m <= 6; m++) {
            int levels = m;
            int n = 1 << m;
            int cells = n * n;
            for (int index : new int[] {-1, cells, cells + 1, 4096, -4096, MIN, MAX}) {
                refusedIn(() -> withPoints(levels), "cell(" + index + ", false)", x -> x.cell(index, false), BAD_INDEX);
                refusedIn(() -> withPoints(levels), "cell(" + index + ", true)", x -> x.cell(index, true), BAD_INDEX);
            }
            CurveOrders x = withCurve(m, HILBERT);
            due("cell(0, false), m " + m, x.cell(0, false), 0);
            due("cell(0, true), m " + m, x.cell(0, true), 0);
            due("cell(n * n - 1, false), m " + m, x.cell(cells - 1, false), n - 1);
            due("cell(n * n - 1, true), m " + m, x.cell(cells - 1, true), 0);
        }
        refused("cell(-1, true)", x -> x.cell(-1, true), BAD_INDEX);
        refused("cell(64, false)", x -> x.cell(64, false), BAD_INDEX);
    }

    private static void indexIsThatOfOneCell() {
        sentence(DESCRIPTION, "So each cell gets a number, its index, from 0 to n * n - 1, in the order of the visit.");
        for (int row = 0; row < 64; row += 3) {
            CurveOrders x = withTable(6, "32107654;20310123;01234567;13201111;03120000;21302222;10323333;23016543;");
            for (int column = 0; column < 64; column++) {
                int index = x.index(column, row);
                due("x of the cell of index(" + column + ", " + row + ")", x.cell(index, false), column);
                due("y of the cell of index(" + column + ", " + row + ")", x.cell(index, true), row);
            }
        }
    }

    private static void xGrowsToTheRight() {
        sentence(DESCRIPTION, "x grows to the right, y upwards");
        CurveOrders x = withTable(1, "13020000;");
        due("index of the quarter right below", x.index(1, 0), 0);
        due("index of the quarter right above", x.index(1, 1), 1);
        due("index of the quarter left below", x.index(0, 0), 2);
        due("index of the quarter left above", x.index(0, 1), 3);
    }

    // promises 8 and 9

    private static void breaksFromFirstToLast() {
        sentence(8, "Returns the number of indices, from 0 to n * n - 2");
        due("breaks() at the first and the last step", withTable(1, "03120000;").breaks(), 2);
        due("breaks() at the step between", withTable(1, "02130000;").breaks(), 1);
        due("breaks() of HILBERT with m 6", withCurve(6, HILBERT).breaks(), 0);
        due("breaks() of MORTON with m 6", withCurve(6, MORTON).breaks(), 2047);
    }

    private static void breaksAcrossCorners() {
        sentence(DESCRIPTION, "Two cells are neighbours if they have a side in common.");
        due("breaks() with a corner in common", withTable(1, "10320000;").breaks(), 1);
    }

    private static void breaksAcrossEndsOfRows() {
        sentence(8, "whose cell is no neighbour of the cell with the next index");
        due("breaks() of MORTON, among them from (3, 1) to (0, 2)", withCurve(2, MORTON).breaks(), 7);
        due("breaks() upright, among them from (1, 3) to (2, 0)", withTable(2, "02130000;").breaks(), 7);
    }

    private static void noBreaks() {
        sentence(8, "Returns the number of indices");
        for (int m = 1; m <= 6; m++) {
            due("breaks() of HILBERT, m " + m, withCurve(m, HILBERT).breaks(), 0);
            due("breaks() of MORTON, m " + m, withCurve(m, MORTON).breaks(), (1 << (2 * m - 1)) - 1);
        }
    }

    private static void stretchAtEachSide() {
        sentence(9, "Returns the greatest difference of the indices of two neighbours.");
        due("stretch() at the lower side", withTable(1, "02310000;").stretch(), 3);
        due("stretch() at the upper side", withTable(1, "20130000;").stretch(), 3);
        due("stretch() at the left side", withTable(1, "01320000;").stretch(), 3);
        due("stretch() at the right side", withTable(1, "10230000;").stretch(), 3);
        due("stretch() at no side", withTable(1, "01230000;").stretch(), 2);
        due("stretch() of descending indices", withTable(1, "13200000;").stretch(), 3);
        due("stretch() of MORTON with m 6", withCurve(6, MORTON).stretch(), 1366);
        due("stretch() of HILBERT with m 6", withCurve(6, HILBERT).stretch(), 3413);
    }

    private static void stretchIsNotAroundTheGrid() {
        sentence(DESCRIPTION, "Two cells are neighbours if they have a side in common.");
        due("stretch() of HILBERT, whose ends lie at the same side", withCurve(2, HILBERT).stretch(), 13);
    }
}
