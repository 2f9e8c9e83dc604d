/** Each promise of the document by hand: ordinary inputs, the edges that it names, and wrong inputs. */
public final class PromiseTest {
    private static final int MAX = Integer.MAX_VALUE;
    private static final int MIN = Integer.MIN_VALUE;
    private static final int[][] HILBERT_VISITS = {{1, 20, 30, 12}, {0, 11, 31, 23}, {33, 22, 2, 10},
        {32, 13, 3, 21}};

    private PromiseTest() {
    }

    public static void main(String[] args) {
        newObject();
        setLevels();
        setCurve();
        statesAndVisit();
        indexAndCell();
        breaksAndStretch();
        appendAndClearText();
        faultOfForm();
        faultOfStates();
        faultOfLongText();
        read();
        setRange();
        intervals();
        extraAndCovering();
        extraOfEqualGaps();
        clusters();
        addPoint();
        removePoint();
        nearest();
        setBucket();
        leaves();
        leafAt();
        neighbours();
        balance();
        divisionIsMadeAnew();
        divisionStays();
        walk();
        saveAndRestore();
        restoreKeepsText();
        restoreStatesOfTable();
        checksum();
        errorsChangeNothing();
        Check.end();
    }

    private static void same(String what, long got, long due) {
        Check.same(what, got, due);
    }

    private static int type(CurveOrders x, String text) {
        int length = 0;
        for (int i = 0; i < text.length(); i++) {
            length = x.append(text.charAt(i));
        }
        return length;
    }

    private static CurveOrders withText(String text) {
        CurveOrders x = new CurveOrders();
        type(x, text);
        return x;
    }

    private static CurveOrders withLevels(int m) {
        CurveOrders x = new CurveOrders();
        x.setLevels(m);
        return x;
    }

    /** Seven leaves: the cells of the square at the left below, then the three other quarters. */
    private static CurveOrders sevenLeaves() {
        CurveOrders x = withLevels(2);
        x.setBucket(1);
        x.addPoint(0, 0);
        x.addPoint(1, 0);
        return x;
    }

    /** Ten leaves; the one with the number 7, of the side 4, has neighbours of the side 1 at its left. */
    private static CurveOrders unbalanced() {
        CurveOrders x = new CurveOrders();
        x.setBucket(1);
        x.addPoint(2, 0);
        x.addPoint(3, 0);
        return x;
    }

    /** Whether just the cells of a rectangle lie in the intervals. */
    private static void checkRange(String what, CurveOrders x, int left, int below, int right, int above) {
        int cells = 0;
        for (int i = 0; i < x.intervals(); i++) {
            for (int index = x.interval(i, false); index <= x.interval(i, true); index++) {
                int column = x.cell(index, false);
                int row = x.cell(index, true);
                Check.holds(what, column >= left && column <= right && row >= below && row <= above);
                cells++;
            }
        }
        same(what, cells, (right - left + 1L) * (above - below + 1L));
    }

    private static long sum(long... values) {
        long h = 73;
        for (long value : values) {
            h = 31 * h + value;
        }
        return h;
    }

    // promise 1
    private static void newObject() {
        CurveOrders x = new CurveOrders();
        same("1: states", x.states(), 1);
        same("1: index of the last cell", x.index(7, 7), 63);
        same("1: no cell beyond n", x.index(8, 0), CurveOrders.BAD_INDEX);
        same("1: the range is the whole grid", x.intervals(), 1);
        same("1: its last index", x.interval(0, true), 63);
        same("1: points", x.points(), 0);
        same("1: leaves", x.leaves(), 1);
        same("1: side of the leaf", x.leaf(0, 2), 8);
        same("1: fault of the empty text", x.faultPosition(), 0);
        same("1: length of the text", x.clearText(), 0);
        same("1: slot 0 is empty", x.restore(0), CurveOrders.NOT_POSSIBLE);
        same("1: slot 1 is empty", x.restore(1), CurveOrders.NOT_POSSIBLE);
        same("1: checksum", x.checksum(),
                sum(3, 1, 0, 10, 20, 30, 31, 22, 1, 0, 63, 0, 2, 1, 0, 0, 8, 0, 0));
        same("1: bucket", x.setBucket(2), 2);
        same("1: curve", x.setCurve(CurveOrders.MORTON), CurveOrders.MORTON);
        same("1: m", x.setLevels(3), 3);
    }

    // promise 2
    private static void setLevels() {
        CurveOrders x = new CurveOrders();
        x.setCurve(CurveOrders.HILBERT);
        x.setBucket(1);
        type(x, "01");
        x.setRange(1, 1, 2, 2);
        x.addPoint(0, 0);
        x.addPoint(7, 7);
        same("2: 0", x.setLevels(0), CurveOrders.BAD_VALUE);
        same("2: 7", x.setLevels(7), CurveOrders.BAD_VALUE);
        same("2: -1", x.setLevels(-1), CurveOrders.BAD_VALUE);
        same("2: MAX", x.setLevels(MAX), CurveOrders.BAD_VALUE);
        same("2: MIN", x.setLevels(MIN), CurveOrders.BAD_VALUE);
        same("2: points stay after errors", x.points(), 2);
        checkRange("2: the range stays after errors", x, 1, 1, 2, 2);
        same("2: the same m", x.setLevels(3), 3);
        same("2: points are removed", x.points(), 0);
        same("2: one leaf", x.leaves(), 1);
        same("2: the range is whole", x.interval(0, true), 63);
        same("2: the cells are free again", x.addPoint(7, 7), 1);
        same("2: 6", x.setLevels(6), 3);
        same("2: last index for 6", x.interval(0, true), 4095);
        same("2: a cell of 6", x.index(63, 0), 4095);
        same("2: no cell of 6", x.index(64, 0), CurveOrders.BAD_INDEX);
        same("2: the leaf for 6", x.leaf(0, 2), 64);
        same("2: 1", x.setLevels(1), 6);
        same("2: last index for 1", x.interval(0, true), 3);
        same("2: no cell of 1", x.index(2, 0), CurveOrders.BAD_INDEX);
        same("2: no index of 1", x.cell(4, true), CurveOrders.BAD_INDEX);
        same("2: the curve stays", x.setCurve(0), CurveOrders.HILBERT);
        same("2: the bucket stays", x.setBucket(1), 1);
        same("2: the text stays", x.clearText(), 2);
        for (int m = 1; m <= 6; m++) {
            x.setLevels(m);
            same("2: n for " + m, x.setRange(0, 0, (1 << m) - 1, (1 << m) - 1), 1L << (2 * m));
            same("2: beyond n for " + m, x.setRange(0, 0, 1 << m, 0), CurveOrders.BAD_VALUE);
        }
    }

    // promise 3
    private static void setCurve() {
        CurveOrders x = new CurveOrders();
        same("3: -1", x.setCurve(-1), CurveOrders.BAD_VALUE);
        same("3: 3", x.setCurve(3), CurveOrders.BAD_VALUE);
        same("3: MIN", x.setCurve(MIN), CurveOrders.BAD_VALUE);
        same("3: MORTON after errors", x.index(1, 0), 1);
        x.setRange(1, 1, 2, 2);
        x.addPoint(5, 5);
        same("3: from MORTON", x.setCurve(CurveOrders.HILBERT), CurveOrders.MORTON);
        same("3: HILBERT is set", x.index(7, 0), 63);
        same("3: points stay", x.points(), 1);
        checkRange("3: the range stays", x, 1, 1, 2, 2);
        same("3: from HILBERT", x.setCurve(CurveOrders.TABLE), CurveOrders.HILBERT);
        same("3: TABLE is as MORTON", x.index(7, 0), 21);
        same("3: TABLE has one state", x.states(), 1);
        same("3: from TABLE", x.setCurve(CurveOrders.MORTON), CurveOrders.TABLE);
    }

    // promises 4 and 5
    private static void statesAndVisit() {
        CurveOrders x = new CurveOrders();
        for (int place = 0; place < 4; place++) {
            same("5: MORTON", x.visit(0, place), 10 * place);
        }
        same("5: state 1 of MORTON", x.visit(1, 0), CurveOrders.BAD_INDEX);
        same("5: place 4", x.visit(0, 4), CurveOrders.BAD_INDEX);
        same("5: place -1", x.visit(0, -1), CurveOrders.BAD_INDEX);
        same("5: state -1", x.visit(-1, 0), CurveOrders.BAD_INDEX);
        same("5: MAX", x.visit(MAX, MAX), CurveOrders.BAD_INDEX);
        same("5: MIN", x.visit(MIN, MIN), CurveOrders.BAD_INDEX);
        same("5: a state that would wrap", x.visit(1 << 30, 0), CurveOrders.BAD_INDEX);
        x.setCurve(CurveOrders.HILBERT);
        same("4: HILBERT", x.states(), 4);
        for (int state = 0; state < 4; state++) {
            for (int place = 0; place < 4; place++) {
                same("5: HILBERT", x.visit(state, place), HILBERT_VISITS[state][place]);
            }
        }
        same("5: state 4 of HILBERT", x.visit(4, 0), CurveOrders.BAD_INDEX);
        x.setCurve(CurveOrders.TABLE);
        same("4: TABLE before a text", x.states(), 1);
        same("5: TABLE before a text", x.visit(0, 3), 30);
        same("5: state 1 of TABLE before a text", x.visit(1, 0), CurveOrders.BAD_INDEX);
        type(x, "32107654;01230000;01230000;01230000;01230000;01230000;01230000;10327777;");
        x.read();
        same("4: TABLE with eight states", x.states(), 8);
        same("5: TABLE, first state", x.visit(0, 0), 37);
        same("5: TABLE, last state", x.visit(7, 3), 27);
        same("5: state 8 of TABLE", x.visit(8, 0), CurveOrders.BAD_INDEX);
    }

    // promises 6 and 7
    private static void indexAndCell() {
        CurveOrders x = new CurveOrders();
        same("6: (1, 0)", x.index(1, 0), 1);
        same("6: (0, 1)", x.index(0, 1), 2);
        same("6: (7, 0)", x.index(7, 0), 21);
        same("6: (0, 7)", x.index(0, 7), 42);
        same("6: x 8", x.index(8, 0), CurveOrders.BAD_INDEX);
        same("6: y 8", x.index(0, 8), CurveOrders.BAD_INDEX);
        same("6: x -1", x.index(-1, 0), CurveOrders.BAD_INDEX);
        same("6: y -1", x.index(0, -1), CurveOrders.BAD_INDEX);
        same("6: MAX", x.index(MAX, MAX), CurveOrders.BAD_INDEX);
        same("6: MIN", x.index(MIN, MIN), CurveOrders.BAD_INDEX);
        same("7: x of 42", x.cell(42, false), 0);
        same("7: y of 42", x.cell(42, true), 7);
        same("7: -1", x.cell(-1, false), CurveOrders.BAD_INDEX);
        same("7: 64", x.cell(64, true), CurveOrders.BAD_INDEX);
        same("7: MAX", x.cell(MAX, true), CurveOrders.BAD_INDEX);
        same("7: MIN", x.cell(MIN, false), CurveOrders.BAD_INDEX);
        x.setCurve(CurveOrders.HILBERT);
        x.setLevels(2);
        int[][] order = {{0, 0}, {1, 0}, {1, 1}, {0, 1}, {0, 2}, {0, 3}, {1, 3}, {1, 2}, {2, 2}, {2, 3}, {3, 3},
            {3, 2}, {3, 1}, {2, 1}, {2, 0}, {3, 0}};
        for (int i = 0; i < 16; i++) {
            same("6: HILBERT " + i, x.index(order[i][0], order[i][1]), i);
            same("7: HILBERT x " + i, x.cell(i, false), order[i][0]);
            same("7: HILBERT y " + i, x.cell(i, true), order[i][1]);
        }
    }

    // promises 8 and 9
    private static void breaksAndStretch() {
        CurveOrders x = withLevels(1);
        same("8: MORTON 1", x.breaks(), 1);
        same("9: MORTON 1", x.stretch(), 2);
        x.setCurve(CurveOrders.HILBERT);
        same("8: HILBERT 1", x.breaks(), 0);
        same("9: HILBERT 1", x.stretch(), 3);
        type(x, "30120000;");
        x.read();
        same("8: TABLE 1", x.breaks(), 2);
        same("9: TABLE 1", x.stretch(), 3);
        x.setLevels(6);
        x.setCurve(CurveOrders.MORTON);
        same("8: MORTON 6", x.breaks(), 2047);
        same("9: MORTON 6", x.stretch(), 1366);
        x.setCurve(CurveOrders.HILBERT);
        same("8: HILBERT 6", x.breaks(), 0);
        same("9: HILBERT 6 has its greatest step at the lower side", x.stretch(),
                x.index(32, 0) - x.index(31, 0));
    }

    // promises 10 and 11
    private static void appendAndClearText() {
        CurveOrders x = new CurveOrders();
        same("10: -1", x.append(-1), CurveOrders.BAD_VALUE);
        same("10: 128", x.append(128), CurveOrders.BAD_VALUE);
        same("10: MAX", x.append(MAX), CurveOrders.BAD_VALUE);
        same("10: MIN", x.append(MIN), CurveOrders.BAD_VALUE);
        same("10: 0", x.append(0), 1);
        same("10: 127", x.append(127), 2);
        same("11: length", x.clearText(), 2);
        same("11: empty", x.clearText(), 0);
        for (int i = 1; i <= 80; i++) {
            same("10: length " + i, x.append('0'), i);
        }
        same("10: full", x.append('0'), CurveOrders.FULL);
        same("10: a wrong letter comes first", x.append(128), CurveOrders.BAD_VALUE);
        same("11: length of a full text", x.clearText(), 80);
        same("10: after clearing", x.append('0'), 1);
    }

    // promise 12
    private static void faultOfForm() {
        Object[][] rows = {{"", 0}, {"0", 1}, {"4", 0}, {"/", 0}, {";", 0}, {"00", 1}, {"0120", 3}, {"0121", 3},
            {"0122", 3}, {"0124", 3}, {"0123", 4}, {"0123;", 4}, {"0123:", 4}, {"0123/", 4}, {"01230", 5},
            {"0123000", 7}, {"0123000;", 7}, {"01230000", 8}, {"012300000", 8}, {"01230000:", 8},
            {"01230000;", -5}, {"32100000;", -5}, {"01230000;x", 9}, {"01230000;;", 9}, {"01230000;0", 10},
            {"01230000;00", 10}, {"01230000;01231111;", -5}, {"01239999;01x", 11}, {"01230000 ", 8}};
        for (Object[] row : rows) {
            same("12: " + row[0], withText((String) row[0]).faultPosition(), (Integer) row[1]);
        }
        CurveOrders x = withText("0123");
        x.append(0);
        same("12: a byte 0", x.faultPosition(), 4);
        x.clearText();
        same("12: cleared", x.faultPosition(), 0);
        type(x, "0");
        same("12: what was cleared does not count", x.faultPosition(), 1);
    }

    private static void faultOfStates() {
        Object[][] rows = {{"01231000;", 4}, {"01230001;", 7}, {"01239999;", 4}, {"01230000;01230020;", 15},
            {"01230000;01230090;x", 18}, {"01230120;01230000;", 6}, {"01230120;01230000;01230000;", -5},
            {"01230000;01230120;0", 19}, {"01230080;", 6}};
        for (Object[] row : rows) {
            same("12: " + row[0], withText((String) row[0]).faultPosition(), (Integer) row[1]);
        }
    }

    private static void faultOfLongText() {
        CurveOrders x = new CurveOrders();
        for (int state = 1; state <= 7; state++) {
            type(x, "01237000;");
        }
        same("12: seven states that name the state 7", x.faultPosition(), 4);
        same("10: the eighth state", type(x, "01230007;"), 72);
        same("12: eight states", x.faultPosition(), CurveOrders.NONE);
        same("13: eight states", x.read(), 8);
        type(x, "0");
        same("12: the first byte of a ninth state", x.faultPosition(), 72);
        same("13: a ninth state", x.read(), CurveOrders.NOT_POSSIBLE);
        type(x, "1230000");
        same("12: the ninth state in a full text", x.faultPosition(), 72);
        same("13: eight states stay", x.states(), 8);
        x.clearText();
        for (int state = 1; state <= 8; state++) {
            type(x, "01230000;");
        }
        type(x, ";");
        same("12: any byte after eight states", x.faultPosition(), 72);
        x.clearText();
        for (int state = 1; state <= 8; state++) {
            type(x, state == 8 ? "01230008;" : "01230000;");
        }
        same("12: the state 8", x.faultPosition(), 70);
    }

    // promise 13
    private static void read() {
        CurveOrders x = new CurveOrders();
        same("13: empty text", x.read(), CurveOrders.NOT_POSSIBLE);
        same("13: the curve stays", x.setCurve(CurveOrders.HILBERT), CurveOrders.MORTON);
        type(x, "01321110;02310001;");
        x.setRange(1, 1, 2, 2);
        x.addPoint(6, 6);
        same("13: number of states", x.read(), 2);
        same("13: the curve is set", x.setCurve(CurveOrders.TABLE), CurveOrders.TABLE);
        same("13: a state", x.visit(0, 2), 31);
        same("13: another state", x.visit(1, 3), 11);
        same("13: points stay", x.points(), 1);
        checkRange("13: the range stays", x, 1, 1, 2, 2);
        same("13: the text stays", x.faultPosition(), CurveOrders.NONE);
        same("13: again", x.read(), 2);
        type(x, "3");
        same("13: a fault", x.read(), CurveOrders.NOT_POSSIBLE);
        same("13: the states stay", x.states(), 2);
        x.setCurve(CurveOrders.MORTON);
        x.setCurve(CurveOrders.TABLE);
        same("13: TABLE keeps its states", x.states(), 2);
        same("13: the text has its length", x.clearText(), 19);
        same("13: TABLE without its text", x.visit(0, 2), 31);
        type(x, "32100000;");
        same("13: fewer states", x.read(), 1);
        same("13: the second state is gone", x.visit(1, 0), CurveOrders.BAD_INDEX);
        same("13: the order is that of the text", x.index(7, 7), 0);
    }

    // promise 14
    private static void setRange() {
        CurveOrders x = new CurveOrders();
        int[][] wrong = {{-1, 0, 7, 7}, {0, -1, 7, 7}, {0, 0, 8, 7}, {0, 0, 7, 8}, {2, 0, 1, 7}, {0, 2, 7, 1},
            {8, 0, 8, 0}, {0, 8, 0, 8}, {0, 0, -1, 0}, {0, 0, 0, -1}, {MIN, 0, 0, 0}, {0, MIN, 0, 0},
            {0, 0, MAX, 0}, {0, 0, 0, MAX}};
        for (int[] row : wrong) {
            same("14: wrong", x.setRange(row[0], row[1], row[2], row[3]), CurveOrders.BAD_VALUE);
        }
        same("14: the range stays", x.interval(0, true), 63);
        same("14: one cell", x.setRange(7, 7, 7, 7), 1);
        same("14: its index", x.interval(0, false), 63);
        same("14: a row of cells", x.setRange(0, 3, 7, 3), 8);
        same("14: a column of cells", x.setRange(3, 0, 3, 7), 8);
        same("14: everything", x.setRange(0, 0, 7, 7), 64);
    }

    // promises 15 and 16
    private static void intervals() {
        CurveOrders x = new CurveOrders();
        x.setRange(1, 1, 4, 2);
        int[][] due = {{3, 3}, {6, 7}, {9, 9}, {12, 13}, {18, 18}, {24, 24}};
        same("15: number", x.intervals(), due.length);
        for (int i = 0; i < due.length; i++) {
            same("16: first " + i, x.interval(i, false), due[i][0]);
            same("16: last " + i, x.interval(i, true), due[i][1]);
        }
        same("16: -1", x.interval(-1, true), CurveOrders.BAD_INDEX);
        same("16: 6", x.interval(6, false), CurveOrders.BAD_INDEX);
        same("16: MAX", x.interval(MAX, true), CurveOrders.BAD_INDEX);
        same("16: MIN", x.interval(MIN, true), CurveOrders.BAD_INDEX);
        x.setCurve(CurveOrders.HILBERT);
        x.setLevels(2);
        x.setRange(0, 0, 3, 0);
        same("15: HILBERT", x.intervals(), 2);
        same("16: HILBERT, first", x.interval(0, true), 1);
        same("16: HILBERT, last", x.interval(1, false), 14);
        x.setCurve(CurveOrders.MORTON);
        same("15: they follow the curve", x.interval(1, true), 5);
        type(x, "10320000;");
        x.read();
        same("15: they follow a text", x.intervals(), 2);
        x.setRange(0, 0, 0, 0);
        same("16: they follow a text", x.interval(0, false), 5);
    }

    // promises 17 and 18
    private static void extraAndCovering() {
        CurveOrders x = new CurveOrders();
        x.setRange(1, 1, 4, 2);
        int[] extras = {14, 9, 5, 3, 1, 0, 0};
        for (int k = 1; k <= 7; k++) {
            same("17: " + k, x.extra(k), extras[k - 1]);
        }
        same("17: MAX", x.extra(MAX), 0);
        same("17: 0", x.extra(0), CurveOrders.BAD_VALUE);
        same("17: MIN", x.extra(MIN), CurveOrders.BAD_VALUE);
        int[][][] due = {{{3, 24}}, {{3, 18}, {24, 24}}, {{3, 13}, {18, 18}, {24, 24}},
            {{3, 9}, {12, 13}, {18, 18}, {24, 24}}, {{3, 3}, {6, 9}, {12, 13}, {18, 18}, {24, 24}}};
        for (int k = 1; k <= due.length; k++) {
            for (int i = 0; i < k; i++) {
                same("18: first " + k + " " + i, x.covering(k, i, false), due[k - 1][i][0]);
                same("18: last " + k + " " + i, x.covering(k, i, true), due[k - 1][i][1]);
            }
            same("18: too many " + k, x.covering(k, k, false), CurveOrders.BAD_INDEX);
        }
        same("18: nothing to join", x.covering(MAX, 5, true), 24);
        same("18: no more than there are", x.covering(MAX, 6, true), CurveOrders.BAD_INDEX);
        same("18: -1", x.covering(1, -1, true), CurveOrders.BAD_INDEX);
        same("18: MIN", x.covering(1, MIN, true), CurveOrders.BAD_INDEX);
        same("18: k 0", x.covering(0, 0, true), CurveOrders.BAD_VALUE);
        same("18: k comes first", x.covering(0, -1, true), CurveOrders.BAD_VALUE);
        same("15: the intervals stay", x.intervals(), 6);
    }

    private static void extraOfEqualGaps() {
        CurveOrders x = withLevels(2);
        x.setRange(0, 0, 3, 0);
        same("17: one gap", x.extra(1), 2);
        x.setRange(0, 0, 0, 3);
        // the indices 0, 2, 8, 10: the gaps are 1, 5 and 1 long
        same("17: the lower of two gaps", x.extra(3), 1);
        same("18: is joined", x.covering(3, 0, true), 2);
        same("18: the higher one is not", x.covering(3, 1, true), 8);
        same("18: the last one", x.covering(3, 2, false), 10);
        same("17: both", x.extra(2), 2);
        same("18: both", x.covering(2, 1, false), 8);
        same("17: all", x.extra(1), 7);
    }

    // promise 19
    private static void clusters() {
        CurveOrders x = withLevels(1);
        same("19: 1 1", x.clusters(1, 1), 4);
        same("19: 2 1", x.clusters(2, 1), 2);
        same("19: 1 2", x.clusters(1, 2), 4);
        same("19: 2 2", x.clusters(2, 2), 1);
        same("19: 0 1", x.clusters(0, 1), CurveOrders.BAD_VALUE);
        same("19: 1 0", x.clusters(1, 0), CurveOrders.BAD_VALUE);
        same("19: 3 1", x.clusters(3, 1), CurveOrders.BAD_VALUE);
        same("19: 1 3", x.clusters(1, 3), CurveOrders.BAD_VALUE);
        same("19: MAX", x.clusters(MAX, MAX), CurveOrders.BAD_VALUE);
        same("19: MIN", x.clusters(MIN, MIN), CurveOrders.BAD_VALUE);
        x.setRange(1, 1, 1, 1);
        same("19: the range does not matter", x.clusters(2, 1), 2);
        x.setLevels(6);
        same("19: 64 64", x.clusters(64, 64), 1);
        same("19: 1 1 of 6", x.clusters(1, 1), 4096);
        x.setLevels(4);
        for (int width = 1; width <= 16; width += 3) {
            same("19: sum " + width, x.clusters(width, 5), countOneByOne(width, 5));
        }
    }

    private static int countOneByOne(int width, int height) {
        int sum = 0;
        for (int left = 0; left + width <= 16; left++) {
            CurveOrders x = withLevels(4);
            for (int below = 0; below + height <= 16; below++) {
                x.setRange(left, below, left + width - 1, below + height - 1);
                sum += x.intervals();
            }
        }
        return sum;
    }

    // promises 20 and 22
    private static void addPoint() {
        CurveOrders x = new CurveOrders();
        same("20: x 8", x.addPoint(8, 0), CurveOrders.BAD_INDEX);
        same("20: y 8", x.addPoint(0, 8), CurveOrders.BAD_INDEX);
        same("20: x -1", x.addPoint(-1, 0), CurveOrders.BAD_INDEX);
        same("20: y -1", x.addPoint(0, -1), CurveOrders.BAD_INDEX);
        same("20: MIN", x.addPoint(MIN, MAX), CurveOrders.BAD_INDEX);
        same("22: none", x.points(), 0);
        for (int i = 0; i < 40; i++) {
            same("20: number " + i, x.addPoint(i % 8, i / 8), i + 1);
            same("22: number " + i, x.points(), i + 1);
        }
        same("20: full", x.addPoint(0, 5), CurveOrders.FULL);
        same("20: a point there comes before full", x.addPoint(0, 0), CurveOrders.NOT_POSSIBLE);
        same("20: no cell comes before full", x.addPoint(0, 8), CurveOrders.BAD_INDEX);
        same("22: 40", x.points(), 40);
        same("21: one less", x.removePoint(3, 3), 39);
        same("20: room again", x.addPoint(0, 5), 40);
        same("20: full again", x.addPoint(3, 3), CurveOrders.FULL);
    }

    // promise 21
    private static void removePoint() {
        CurveOrders x = new CurveOrders();
        same("21: none there", x.removePoint(0, 0), CurveOrders.NOT_POSSIBLE);
        same("21: no cell", x.removePoint(0, 8), CurveOrders.BAD_INDEX);
        same("21: no cell below", x.removePoint(-1, 0), CurveOrders.BAD_INDEX);
        x.addPoint(1, 2);
        x.addPoint(3, 4);
        x.addPoint(5, 6);
        same("21: the cell with x and y changed about", x.removePoint(2, 1), CurveOrders.NOT_POSSIBLE);
        same("21: two are left", x.removePoint(1, 2), 2);
        same("21: it is gone", x.removePoint(1, 2), CurveOrders.NOT_POSSIBLE);
        same("21: one is left", x.removePoint(5, 6), 1);
        same("21: the right one", x.nearest(0, 0), x.index(3, 4));
        same("21: none is left", x.removePoint(3, 4), 0);
        same("22: none", x.points(), 0);
    }

    // promise 23
    private static void nearest() {
        CurveOrders x = new CurveOrders();
        same("23: no points", x.nearest(0, 0), CurveOrders.NONE);
        same("23: no cell comes first", x.nearest(8, 0), CurveOrders.BAD_INDEX);
        same("23: no cell", x.nearest(0, -1), CurveOrders.BAD_INDEX);
        x.addPoint(2, 3);
        x.addPoint(0, 3);
        same("23: the lower one of two", x.nearest(2, 2), 10);
        same("23: the upper one", x.nearest(3, 2), 14);
        same("23: its own cell", x.nearest(2, 3), 14);
        same("23: below all", x.nearest(0, 0), 10);
        same("23: above all", x.nearest(7, 7), 14);
        same("23: no cell with points", x.nearest(0, 8), CurveOrders.BAD_INDEX);
        x.removePoint(2, 3);
        x.addPoint(2, 3);
        same("23: whichever came first", x.nearest(2, 2), 10);
        x.setCurve(CurveOrders.HILBERT);
        same("23: it follows the curve", x.nearest(7, 0), Math.max(x.index(2, 3), x.index(0, 3)));
    }

    // promise 24
    private static void setBucket() {
        CurveOrders x = new CurveOrders();
        same("24: 0", x.setBucket(0), CurveOrders.BAD_VALUE);
        same("24: 9", x.setBucket(9), CurveOrders.BAD_VALUE);
        same("24: MIN", x.setBucket(MIN), CurveOrders.BAD_VALUE);
        same("24: MAX", x.setBucket(MAX), CurveOrders.BAD_VALUE);
        same("24: 8", x.setBucket(8), 2);
        for (int i = 0; i < 8; i++) {
            x.addPoint(i, i);
        }
        same("25: as many as the bucket allows", x.leaves(), 1);
        same("24: 7", x.setBucket(7), 8);
        same("25: one more", x.leaves(), 4);
        same("24: 1", x.setBucket(1), 7);
        same("25: to the cells of the diagonal", x.leaves(), 22);
        same("24: 2", x.setBucket(2), 1);
        same("25: two in each", x.leaves(), 10);
    }

    // promises 25 and 26
    private static void leaves() {
        CurveOrders x = sevenLeaves();
        int[][] due = {{0, 0, 1, 1, 0}, {1, 0, 1, 1, 1}, {0, 1, 1, 0, 2}, {1, 1, 1, 0, 3}, {2, 0, 2, 0, 4},
            {0, 2, 2, 0, 8}, {2, 2, 2, 0, 12}};
        checkLeaves("26: MORTON ", x, due);
        x.setCurve(CurveOrders.HILBERT);
        int[][] dueOfHilbert = {{0, 0, 1, 1, 0}, {1, 0, 1, 1, 1}, {1, 1, 1, 0, 2}, {0, 1, 1, 0, 3}, {0, 2, 2, 0, 4},
            {2, 2, 2, 0, 8}, {2, 0, 2, 0, 12}};
        checkLeaves("26: HILBERT ", x, dueOfHilbert);
        type(x, "32100000;");
        x.read();
        int[][] dueOfText = {{2, 2, 2, 0, 0}, {0, 2, 2, 0, 4}, {2, 0, 2, 0, 8}, {1, 1, 1, 0, 12}, {0, 1, 1, 0, 13},
            {1, 0, 1, 1, 14}, {0, 0, 1, 1, 15}};
        checkLeaves("26: TABLE ", x, dueOfText);
        same("26: -1", x.leaf(-1, 0), CurveOrders.BAD_INDEX);
        same("26: 7", x.leaf(7, 0), CurveOrders.BAD_INDEX);
        same("26: MAX", x.leaf(MAX, 0), CurveOrders.BAD_INDEX);
        same("26: MIN", x.leaf(MIN, 0), CurveOrders.BAD_INDEX);
        same("26: what -1", x.leaf(0, -1), CurveOrders.BAD_VALUE);
        same("26: what 5", x.leaf(0, 5), CurveOrders.BAD_VALUE);
        same("26: the leaf comes first", x.leaf(7, 5), CurveOrders.BAD_INDEX);
    }

    private static void checkLeaves(String name, CurveOrders x, int[][] due) {
        same("25: " + name, x.leaves(), due.length);
        for (int i = 0; i < due.length; i++) {
            for (int what = 0; what < 5; what++) {
                same(name + i + " " + what, x.leaf(i, what), due[i][what]);
            }
        }
    }

    // promise 27
    private static void leafAt() {
        CurveOrders x = sevenLeaves();
        int[][] due = {{0, 1, 4, 4}, {2, 3, 4, 4}, {5, 5, 6, 6}, {5, 5, 6, 6}};
        for (int y = 0; y < 4; y++) {
            for (int column = 0; column < 4; column++) {
                same("27: " + column + " " + y, x.leafAt(column, y), due[y][column]);
            }
        }
        same("27: x 4", x.leafAt(4, 0), CurveOrders.BAD_INDEX);
        same("27: y 4", x.leafAt(0, 4), CurveOrders.BAD_INDEX);
        same("27: x -1", x.leafAt(-1, 0), CurveOrders.BAD_INDEX);
        same("27: y -1", x.leafAt(0, -1), CurveOrders.BAD_INDEX);
        same("27: MIN", x.leafAt(MIN, MAX), CurveOrders.BAD_INDEX);
    }

    // promises 28 and 29
    private static void neighbours() {
        CurveOrders x = sevenLeaves();
        int[][][] due = {{{}, {1}, {}, {2}}, {{0}, {4}, {}, {3}}, {{}, {3}, {0}, {5}}, {{2}, {4}, {1}, {5}},
            {{1, 3}, {}, {}, {6}}, {{}, {6}, {2, 3}, {}}, {{5}, {}, {4}, {}}};
        for (int leaf = 0; leaf < due.length; leaf++) {
            for (int side = 0; side < 4; side++) {
                int[] found = due[leaf][side];
                same("28: " + leaf + " " + side, x.neighbours(leaf, side), found.length);
                for (int rank = 0; rank < found.length; rank++) {
                    same("29: " + leaf + " " + side, x.neighbour(leaf, side, rank), found[rank]);
                }
                same("29: no more " + leaf + " " + side, x.neighbour(leaf, side, found.length), CurveOrders.NONE);
            }
        }
        int[][] wrong = {{-1, 0}, {7, 0}, {0, -1}, {0, 4}, {MAX, 0}, {MIN, 0}, {0, MAX}, {0, MIN}};
        for (int[] row : wrong) {
            same("28: wrong", x.neighbours(row[0], row[1]), CurveOrders.BAD_INDEX);
            same("29: wrong", x.neighbour(row[0], row[1], 0), CurveOrders.BAD_INDEX);
        }
        same("29: rank -1", x.neighbour(0, 1, -1), CurveOrders.BAD_INDEX);
        same("29: rank -1 where there is none", x.neighbour(0, 0, -1), CurveOrders.BAD_INDEX);
        same("29: rank MIN", x.neighbour(0, 1, MIN), CurveOrders.BAD_INDEX);
        same("29: rank MAX", x.neighbour(0, 1, MAX), CurveOrders.NONE);
        type(x, "32100000;");
        x.read();
        same("29: by the number, not by the place", x.neighbour(2, 0, 0), 3);
        same("29: the next number", x.neighbour(2, 0, 1), 5);
    }

    // promise 30
    private static void balance() {
        CurveOrders x = new CurveOrders();
        same("30: one leaf", x.balance(), 0);
        x = unbalanced();
        same("25: before balancing", x.leaves(), 10);
        same("30: one leaf is divided", x.balance(), 1);
        same("25: after balancing", x.leaves(), 13);
        int[][] due = {{0, 0, 2, 0, 0}, {2, 0, 1, 1, 4}, {3, 0, 1, 1, 5}, {2, 1, 1, 0, 6}, {3, 1, 1, 0, 7},
            {0, 2, 2, 0, 8}, {2, 2, 2, 0, 12}, {4, 0, 2, 0, 16}, {6, 0, 2, 0, 20}, {4, 2, 2, 0, 24},
            {6, 2, 2, 0, 28}, {0, 4, 4, 0, 32}, {4, 4, 4, 0, 48}};
        checkLeaves("30: ", x, due);
        same("30: balanced", x.balance(), 0);
        same("22: points", x.points(), 2);
        x = withLevels(4);
        x.setBucket(1);
        x.addPoint(6, 0);
        x.addPoint(7, 0);
        same("30: a quarter of a divided leaf is divided", x.balance(), 2);
        same("30: at the left", x.leaf(x.leafAt(8, 0), 2), 2);
        same("30: beside it", x.leaf(x.leafAt(12, 0), 2), 4);
        same("30: above it", x.leaf(x.leafAt(8, 4), 2), 4);
        same("30: half of its own is enough", x.leaf(x.leafAt(8, 8), 2), 8);
        x = withLevels(4);
        x.setBucket(1);
        x.addPoint(7, 7);
        x.addPoint(6, 7);
        // two at the right, two above, and then the one that lies beside both of these
        same("30: at two sides, not across a corner", x.balance(), 5);
        same("30: across the corner", x.leaf(x.leafAt(8, 8), 2), 4);
        x = withLevels(4);
        x.setBucket(1);
        x.addPoint(8, 0);
        x.addPoint(9, 0);
        same("30: the leaf 0 is too large", x.balance(), 2);
        same("30: it is divided", x.leaf(0, 2), 4);
        x = withLevels(4);
        x.setBucket(1);
        x.addPoint(8, 8);
        x.addPoint(9, 8);
        same("30: the leaf 0 becomes too large", x.balance(), 5);
        same("30: it is divided then", x.leaf(0, 2), 4);
    }

    private static void divisionIsMadeAnew() {
        for (int call = 0; call < 5; call++) {
            CurveOrders x = unbalanced();
            type(x, "01230000;");
            x.balance();
            switch (call) {
                case 0:
                    x.setCurve(CurveOrders.MORTON);
                    break;
                case 1:
                    x.setBucket(1);
                    break;
                case 2:
                    x.read();
                    break;
                case 3:
                    x.addPoint(7, 7);
                    break;
                default:
                    x.addPoint(7, 7);
                    x.balance();
                    x.removePoint(7, 7);
                    break;
            }
            same("25: made anew by call " + call, x.leaves(), 10);
        }
    }

    private static void divisionStays() {
        CurveOrders x = unbalanced();
        x.balance();
        x.setRange(1, 1, 2, 2);
        x.append('0');
        x.clearText();
        x.read();
        x.setCurve(3);
        x.setLevels(0);
        x.setBucket(9);
        x.addPoint(2, 0);
        x.removePoint(7, 7);
        x.restore(1);
        x.save(0);
        x.checksum();
        x.clusters(2, 2);
        same("25: leaves divided by balancing stay", x.leaves(), 13);
    }

    // promises 31 and 32
    private static void walk() {
        CurveOrders x = sevenLeaves();
        int[][][] due = {{{0}, {0, 1, 4}, {0}, {0, 2, 5}}, {{1, 0}, {1, 4}, {1}, {1, 3, 5}},
            {{2}, {2, 3, 4}, {2, 0}, {2, 5}}, {{3, 2}, {3, 4}, {3, 1}, {3, 5}}, {{4, 1, 0}, {4}, {4}, {4, 6}},
            {{5}, {5, 6}, {5, 2, 0}, {5}}, {{6, 5}, {6}, {6, 4}, {6}}};
        for (int leaf = 0; leaf < due.length; leaf++) {
            for (int side = 0; side < 4; side++) {
                int[] path = due[leaf][side];
                same("31: " + leaf + " " + side, x.walk(leaf, side), path.length - 1);
                for (int steps = 0; steps < path.length; steps++) {
                    same("32: " + leaf + " " + side, x.walked(leaf, side, steps), path[steps]);
                }
                same("32: no more " + leaf + " " + side, x.walked(leaf, side, path.length), CurveOrders.NONE);
            }
        }
        int[][] wrong = {{-1, 0}, {7, 0}, {0, -1}, {0, 4}, {MAX, 0}, {MIN, 0}, {0, MAX}, {0, MIN}};
        for (int[] row : wrong) {
            same("31: wrong", x.walk(row[0], row[1]), CurveOrders.BAD_INDEX);
            same("32: wrong", x.walked(row[0], row[1], 0), CurveOrders.BAD_INDEX);
        }
        same("32: steps -1", x.walked(0, 1, -1), CurveOrders.BAD_INDEX);
        same("32: steps MIN", x.walked(0, 1, MIN), CurveOrders.BAD_INDEX);
        same("32: steps MAX", x.walked(0, 1, MAX), CurveOrders.NONE);
        x = withLevels(6);
        x.setBucket(1);
        for (int i = 0; i < 32; i++) {
            x.addPoint(2 * i, 0);
        }
        same("31: a long walk", x.walk(0, 1), 31);
        same("32: its end", x.walked(0, 1, 31), x.leafAt(63, 0));
    }

    // promises 33 and 34
    private static void saveAndRestore() {
        CurveOrders x = unbalanced();
        int[] wrong = {-1, 2, MAX, MIN};
        for (int slot : wrong) {
            same("33: wrong", x.save(slot), CurveOrders.BAD_INDEX);
            same("34: wrong", x.restore(slot), CurveOrders.BAD_INDEX);
        }
        x.balance();
        x.setRange(1, 1, 4, 2);
        long sum = x.checksum();
        same("33: leaves", x.save(0), 13);
        same("34: the other slot is empty", x.restore(1), CurveOrders.NOT_POSSIBLE);
        x.setLevels(6);
        x.setCurve(CurveOrders.HILBERT);
        x.setBucket(3);
        x.addPoint(63, 63);
        long otherSum = x.checksum();
        same("33: leaves of the other slot", x.save(1), 1);
        same("34: leaves", x.restore(0), 13);
        same("34: everything", x.checksum(), sum);
        same("34: the curve", x.setCurve(CurveOrders.MORTON), CurveOrders.MORTON);
        same("34: the points", x.nearest(7, 7), 5);
        same("34: the division is made anew by the next change", x.leaves(), 10);
        same("34: the slot keeps it", x.restore(0), 13);
        same("34: everything again", x.checksum(), sum);
        same("34: the range", x.intervals(), 6);
        x.removePoint(2, 0);
        x.setRange(0, 0, 0, 0);
        x.balance();
        same("34: later changes do not reach the slot", x.restore(0) + x.checksum(), 13 + sum);
        same("34: the other slot", x.restore(1), 1);
        same("34: everything of the other slot", x.checksum(), otherSum);
        same("34: its curve", x.setCurve(CurveOrders.HILBERT), CurveOrders.HILBERT);
        same("34: its m", x.index(0, 63) >= 0 ? 1 : 0, 1);
        same("33: in place of what the slot keeps", x.save(0), 1);
        x.setLevels(1);
        same("34: what was saved last", x.restore(0), 1);
        same("34: everything that was saved last", x.checksum(), otherSum);
    }

    private static void restoreKeepsText() {
        CurveOrders x = new CurveOrders();
        type(x, "01");
        x.save(0);
        type(x, "23");
        x.restore(0);
        same("34: the text is not saved", x.clearText(), 4);
        x.restore(0);
        same("34: nor restored", x.clearText(), 0);
    }

    private static void restoreStatesOfTable() {
        CurveOrders x = withText("32101111;01230000;");
        x.read();
        x.setCurve(CurveOrders.MORTON);
        x.save(1);
        x.clearText();
        type(x, "10320000;");
        x.read();
        same("13: another text", x.states(), 1);
        x.restore(1);
        same("34: MORTON again", x.states(), 1);
        same("34: from MORTON", x.setCurve(CurveOrders.TABLE), CurveOrders.MORTON);
        same("34: the states of TABLE", x.states(), 2);
        same("34: a visit of TABLE", x.visit(0, 0), 31);
    }

    // promise 35
    private static void checksum() {
        CurveOrders x = sevenLeaves();
        x.setRange(0, 0, 3, 0);
        same("35: by hand", x.checksum(), sum(2, 1, 0, 10, 20, 30, 7, 6, 2, 0, 1, 4, 5, 2, 1, 7,
                0, 0, 1, 1, 0, 1, 0, 1, 1, 1, 0, 1, 1, 0, 2, 1, 1, 1, 0, 3, 2, 0, 2, 0, 4, 0, 2, 2, 0, 8, 2, 2, 2, 0, 12));
        same("35: again", x.checksum(), x.checksum());
        x.setLevels(1);
        x.setCurve(CurveOrders.HILBERT);
        same("35: HILBERT", x.checksum(), sum(1, 4, 1, 20, 30, 12, 0, 11, 31, 23, 33, 22, 2, 10, 32, 13, 3, 21, 0, 3,
                1, 0, 3, 0, 1, 1, 0, 0, 2, 0, 0));
    }

    private static void errorsChangeNothing() {
        CurveOrders x = unbalanced();
        type(x, "0123");
        x.balance();
        x.setRange(1, 1, 4, 2);
        long sum = x.checksum();
        long answers = x.setLevels(0) + x.setLevels(7) + x.setCurve(-1) + x.setCurve(3) + x.append(-1)
                + x.append(128) + x.setRange(0, 0, 8, 0) + x.setRange(3, 0, 2, 0) + x.setBucket(0) + x.setBucket(9)
                + x.extra(0) + x.covering(0, 0, false) + x.clusters(0, 1) + x.leaf(0, 5);
        same("the errors of values", answers, 14L * CurveOrders.BAD_VALUE);
        answers = x.visit(1, 0) + x.index(8, 0) + x.cell(64, true) + x.interval(6, true) + x.covering(1, 1, true)
                + x.addPoint(8, 8) + x.removePoint(-1, 0) + x.nearest(0, 8) + x.leaf(13, 0) + x.leafAt(8, 8)
                + x.neighbours(13, 0) + x.neighbour(0, 4, 0) + x.walk(0, 4) + x.walked(0, 0, -1) + x.save(2)
                + x.restore(2);
        same("the errors of indices", answers, 16L * CurveOrders.BAD_INDEX);
        answers = x.read() + x.addPoint(2, 0) + x.removePoint(0, 0) + x.restore(0) + x.restore(1);
        same("the calls that are not possible", answers, 5L * CurveOrders.NOT_POSSIBLE);
        same("nothing has changed", x.checksum(), sum);
        same("nor the curve", x.setCurve(CurveOrders.MORTON), CurveOrders.MORTON);
        same("nor the text", x.clearText(), 4);
    }
}
