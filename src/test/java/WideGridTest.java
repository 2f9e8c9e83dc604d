import java.util.Random;

/**
 * The greatest grid with as many intervals and leaves as there can be: the class keeps rows for 505 intervals
 * and 496 leaves, which must never be too short.
 */
public final class WideGridTest {
    private static final int MOST_INTERVALS = 505;
    private static final int MOST_LEAVES = 496;
    private static final String[] TEXTS = {"01230000;", "03120000;", "03211230;30120321;12030002;21302013;",
        "30211111;12030000;", "21034567;30122345;03121234;12300123;10327654;32016543;02135432;13204321;"};

    private WideGridTest() {
    }

    public static void main(String[] args) {
        for (String text : TEXTS) {
            checkIntervals(text);
        }
        checkSpreadPairs();
        for (int seed = 0; seed < 30; seed++) {
            checkScatteredPairs(new Random(seed));
        }
        Check.end();
    }

    private static void type(CurveOrders real, PlainOrders plain, String text) {
        for (int i = 0; i < text.length(); i++) {
            Check.same("append", real.append(text.charAt(i)), plain.append(text.charAt(i)));
        }
        Check.same("read of " + text, real.read(), plain.read());
    }

    private static void checkIntervals(String text) {
        CurveOrders real = new CurveOrders();
        PlainOrders plain = new PlainOrders();
        real.setLevels(6);
        plain.setLevels(6);
        type(real, plain, text);
        int[][] ranges = {{1, 1, 62, 62}, {1, 1, 63, 62}, {0, 1, 63, 62}, {1, 0, 62, 63}, {3, 5, 60, 58},
            {1, 31, 62, 32}, {31, 1, 32, 62}, {1, 1, 62, 1}, {0, 0, 63, 63}, {0, 63, 63, 63}, {21, 21, 42, 42}};
        for (int[] range : ranges) {
            real.setRange(range[0], range[1], range[2], range[3]);
            plain.setRange(range[0], range[1], range[2], range[3]);
            int count = plain.intervals();
            Check.holds("few enough intervals: " + count, count <= MOST_INTERVALS);
            Check.same("intervals", real.intervals(), count);
            Check.same("the last interval", real.interval(count - 1, true), plain.interval(count - 1, true));
            for (int k = 1; k <= count + 1; k += 1 + count / 7) {
                Check.same("extra " + k, real.extra(k), plain.extra(k));
                Check.same("covering " + k, real.covering(k, k / 2, true), plain.covering(k, k / 2, true));
            }
        }
    }

    /** Twenty pairs, each in a square of its own of the side 16 or in the corner of one. */
    private static void checkSpreadPairs() {
        for (int shift = 0; shift < 16; shift += 2) {
            CurveOrders real = new CurveOrders();
            PlainOrders plain = new PlainOrders();
            prepare(real, plain);
            for (int pair = 0; pair < 20; pair++) {
                int x = (13 * pair + shift) % 64 / 2 * 2;
                int y = (29 * pair + 3 * shift) % 64;
                addPair(real, plain, x, y);
            }
            compareLeaves(real, plain);
        }
    }

    private static void checkScatteredPairs(Random random) {
        CurveOrders real = new CurveOrders();
        PlainOrders plain = new PlainOrders();
        prepare(real, plain);
        for (int pair = 0; pair < 20; pair++) {
            addPair(real, plain, 2 * random.nextInt(32), random.nextInt(64));
        }
        compareLeaves(real, plain);
    }

    private static void prepare(CurveOrders real, PlainOrders plain) {
        real.setLevels(6);
        plain.setLevels(6);
        real.setCurve(CurveOrders.HILBERT);
        plain.setCurve(CurveOrders.HILBERT);
        real.setBucket(1);
        plain.setBucket(1);
    }

    private static void addPair(CurveOrders real, PlainOrders plain, int x, int y) {
        Check.same("addPoint", real.addPoint(x, y), plain.addPoint(x, y));
        Check.same("addPoint", real.addPoint(x + 1, y), plain.addPoint(x + 1, y));
    }

    private static void compareLeaves(CurveOrders real, PlainOrders plain) {
        Check.same("leaves", real.leaves(), plain.leaves());
        Check.same("balance", real.balance(), plain.balance());
        Check.holds("few enough leaves", plain.leaves() <= MOST_LEAVES);
        Check.same("leaves after balancing", real.leaves(), plain.leaves());
        // the checksum asks for every leaf in one call, which keeps to the 512 that an object is made for
        Check.same("checksum", real.checksum(), plain.checksum());
    }
}
