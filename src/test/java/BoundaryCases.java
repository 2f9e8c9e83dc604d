import java.util.ArrayList;
import java.util.List;

/**
 * What the tests of the boundary cases share. A case is one sentence of the document: sentence() names it, and what
 * is asked until the next one belongs to it. A refused call is made on one of two workbenches that were made alike;
 * afterwards nothing that can be asked may tell them apart.
 */
abstract class BoundaryCases {
    static final int BAD_INDEX = CurveOrders.BAD_INDEX;
    static final int BAD_VALUE = CurveOrders.BAD_VALUE;
    static final int NOT_POSSIBLE = CurveOrders.NOT_POSSIBLE;
    static final int FULL = CurveOrders.FULL;
    static final int NONE = CurveOrders.NONE;
    static final int MORTON = CurveOrders.MORTON;
    static final int HILBERT = CurveOrders.HILBERT;
    static final int TABLE = CurveOrders.TABLE;
    static final int MAX = Integer.MAX_VALUE;
    static final int MIN = Integer.MIN_VALUE;
    /** Stands for the description, on which the promises lean. */
    static final int DESCRIPTION = 0;

    private static String current = "";

    /** A call on a workbench. */
    interface Call {
        long on(CurveOrders x);
    }

    /** A call that is told a cell. */
    interface CellCall {
        long on(CurveOrders x, int column, int row);
    }

    /** A workbench in some state; each one that is made is like the others. */
    interface Scene {
        CurveOrders make();
    }

    static void sentence(int promise, String words) {
        current = (promise == DESCRIPTION ? "description" : "promise " + promise) + ", \"" + words + "\": ";
    }

    static void due(String call, long got, long due) {
        Check.same(current + call, got, due);
    }

    static void refusedIn(Scene scene, String call, Call made, long due) {
        CurveOrders x = scene.make();
        due(call, made.on(x), due);
        List<Long> got = everythingOf(x);
        List<Long> untouched = everythingOf(scene.make());
        for (int i = 0; i < got.size(); i++) {
            due("answer " + i + " after the refused " + call, got.get(i), untouched.get(i));
        }
    }

    /** For calls that are refused in every state of a grid with the side 8. */
    static void refused(String call, Call made, long due) {
        refusedIn(CurveOrders::new, call, made, due);
        refusedIn(BoundaryCases::busy, call, made, due);
        refusedIn(BoundaryCases::crowded, call, made, due);
    }

    /** An x outside of the grid is refused, on each grid, also where it would fold onto a cell that there is. */
    static void refusedColumns(String name, CellCall call) {
        for (int m = 1; m <= 6; m++) {
            int n = 1 << m;
            refusedCells(name, call, m, new int[][] {{-1, 0}, {n, 0}, {-1, n - 1}, {n, n - 1}, {-1, 1}, {-n, 1}, {-64, 1},
                {64, 0}, {n + 64, 0}, {MIN, 0}, {MAX, 0}, {MIN, n - 1}, {MAX, n - 1}});
        }
    }

    /** The same for a y, with the cells at which both are outside. */
    static void refusedRows(String name, CellCall call) {
        for (int m = 1; m <= 6; m++) {
            int n = 1 << m;
            refusedCells(name, call, m, new int[][] {{0, -1}, {0, n}, {n - 1, -1}, {n - 1, n}, {0, 64}, {0, 1 << 26},
                {1, 1 << 26}, {0, 1 << 30}, {0, MIN}, {0, MAX}, {n - 1, MIN}, {n - 1, MAX}, {64, -1}, {-1, -1}, {n, n},
                {n, -1}, {-1, n}, {MIN, MIN}, {MAX, MAX}});
        }
    }

    private static void refusedCells(String name, CellCall call, int m, int[][] cells) {
        for (int[] cell : cells) {
            String told = name + "(" + cell[0] + ", " + cell[1] + ")";
            refusedIn(() -> withPoints(m), told, x -> call.on(x, cell[0], cell[1]), BAD_INDEX);
            if (m == 3) {
                refused(told, x -> call.on(x, cell[0], cell[1]), BAD_INDEX);
            }
        }
    }

    static int type(CurveOrders x, String text) {
        int length = 0;
        for (int i = 0; i < text.length(); i++) {
            length = x.append(text.charAt(i));
        }
        return length;
    }

    static CurveOrders withText(String text) {
        CurveOrders x = new CurveOrders();
        type(x, text);
        return x;
    }

    static CurveOrders withCurve(int m, int curve) {
        CurveOrders x = new CurveOrders();
        x.setLevels(m);
        x.setCurve(curve);
        return x;
    }

    /** The curve of a text. */
    static CurveOrders withTable(int m, String text) {
        CurveOrders x = withText(text);
        x.setLevels(m);
        x.read();
        return x;
    }

    /** So many states, each one as that of MORTON. */
    static String states(int count) {
        return "01230000;".repeat(count);
    }

    static CurveOrders withPoints(int m) {
        CurveOrders x = withCurve(m, MORTON);
        x.setBucket(1);
        x.addPoint(0, 0);
        x.addPoint(1, 0);
        x.addPoint((1 << m) - 1, (1 << m) - 1);
        return x;
    }

    /** Seven leaves: the four cells of the left lower quarter, then the three other quarters, of the side 2. */
    static CurveOrders sevenLeaves() {
        CurveOrders x = withCurve(2, MORTON);
        x.setBucket(1);
        x.addPoint(0, 0);
        x.addPoint(1, 0);
        return x;
    }

    /** Ten leaves; number 7, at (4, 0) and of the side 4, has two neighbours of the side 1; 13 after balancing. */
    static CurveOrders unbalanced() {
        CurveOrders x = new CurveOrders();
        x.setBucket(1);
        x.addPoint(2, 0);
        x.addPoint(3, 0);
        return x;
    }

    /** Everything differs from what is at first: balanced leaves, a begun text, one slot used, the other empty. */
    static CurveOrders busy() {
        CurveOrders x = withText("32101111;01230000;");
        x.read();
        x.addPoint(1, 1);
        x.setRange(2, 3, 6, 7);
        x.save(0);
        x.clearText();
        type(x, "10320000;");
        x.read();
        x.setCurve(HILBERT);
        x.setBucket(1);
        x.addPoint(2, 0);
        x.addPoint(3, 0);
        x.setRange(1, 1, 4, 2);
        x.clearText();
        type(x, "1302000");
        x.balance();
        return x;
    }

    /** As many points, states and bytes as there can be, and both slots used. */
    static CurveOrders crowded() {
        CurveOrders x = withText("32107654;".repeat(8));
        x.read();
        type(x, "01230000");
        x.setBucket(3);
        x.save(1);
        for (int i = 0; i < 40; i++) {
            x.addPoint(i % 8, i / 8);
        }
        x.setRange(0, 1, 7, 6);
        x.save(0);
        return x;
    }

    /** All that can be asked of a workbench, which is changed by it; some 200 calls. */
    private static List<Long> everythingOf(CurveOrders x) {
        List<Long> made = new ArrayList<>();
        made.add(x.checksum());
        made.add((long) x.faultPosition());
        made.add((long) x.extra(1));
        made.add((long) x.covering(2, 0, true));
        addCells(made, x);
        addNumbersBehind(made, x);
        addText(made, x);
        for (int slot = 0; slot < 2; slot++) {
            made.add((long) x.restore(slot));
            made.add(x.checksum());
            addNumbersBehind(made, x);
        }
        made.add((long) x.setLevels(3));
        return made;
    }

    private static void addCells(List<Long> made, CurveOrders x) {
        int n = 1;
        while (x.index(n, 0) >= 0) {
            n++;
        }
        int step = Math.max(1, n / 8);
        for (int column = 0; column < n; column += step) {
            for (int row = 0; row < n; row += step) {
                made.add((long) x.nearest(column, row));
            }
        }
    }

    /** The curve, the states of TABLE, the bucket and the points, which the checksum does not tell apart. */
    private static void addNumbersBehind(List<Long> made, CurveOrders x) {
        made.add((long) x.setCurve(TABLE));
        made.add(x.checksum());
        made.add((long) x.setBucket(1));
        made.add(x.checksum());
    }

    private static void addText(List<Long> made, CurveOrders x) {
        for (char letter : new char[] {'0', ';'}) {
            made.add((long) x.append(letter));
            made.add((long) x.faultPosition());
            made.add((long) x.read());
            made.add(x.checksum());
        }
        made.add((long) x.clearText());
    }
}
