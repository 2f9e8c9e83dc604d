/** The boundary cases of the promises 33 to 35: slots and checksum; and of what holds for every call. */
public final class BoundarySlotTest extends BoundaryCases {
    private static final int[] NO_SLOTS = {-1, 2, 3, MIN, MAX};
    private static final int MOST_CALLS = 512;

    private BoundarySlotTest() {
    }

    public static void main(String[] args) {
        slotsOfSave();
        leavesThatAreSaved();
        inPlaceOfWhatTheSlotKeeps();
        slotsAreTwo();
        saveChangesNothingElse();
        slotsOfRestore();
        nothingHasBeenSaved();
        noSlotComesBeforeNothingSaved();
        everythingIsRestored();
        statesOfTableAreRestored();
        balancedLeavesAreRestored();
        leavesThatWereNotBalancedAreRestored();
        slotKeepsIt();
        smallestAndGreatestGridAreRestored();
        textIsNotSaved();
        leavesThen();
        checksumOfTheSmallest();
        checksumOfTheGreatest();
        checksumChangesNothing();
        bothSlotsOutliveEverything();
        callsUpToTheLast();
        Check.end();
    }

    // promise 33

    private static void slotsOfSave() {
        sentence(33, "slot: 0 or 1");
        for (int slot : NO_SLOTS) {
            refused("save(" + slot + ")", x -> x.save(slot), BAD_INDEX);
        }
        due("save(0)", new CurveOrders().save(0), 1);
        due("save(1)", new CurveOrders().save(1), 1);
    }

    private static void leavesThatAreSaved() {
        sentence(33, "Returns the number of leaves");
        CurveOrders x = unbalanced();
        due("save(0)", x.save(0), 10);
        x.balance();
        due("save(1) balanced", x.save(1), 13);
        x.setLevels(1);
        due("save(1) of one leaf", x.save(1), 1);
    }

    private static void inPlaceOfWhatTheSlotKeeps() {
        sentence(33, "in place of what the slot keeps");
        CurveOrders x = crowded();
        x.save(0);
        x.setLevels(1);
        x.setCurve(MORTON);
        long sum = x.checksum();
        x.save(0);
        x.setLevels(6);
        due("restore(0)", x.restore(0), 1);
        due("checksum()", x.checksum(), sum);
        due("points()", x.points(), 0);
        due("setLevels(1)", x.setLevels(1), 1);
    }

    private static void slotsAreTwo() {
        sentence(33, "slot: 0 or 1");
        CurveOrders x = new CurveOrders();
        x.addPoint(1, 1);
        x.save(0);
        x.addPoint(2, 2);
        x.save(1);
        x.addPoint(3, 3);
        x.restore(0);
        due("points() of slot 0", x.points(), 1);
        x.restore(1);
        due("points() of slot 1", x.points(), 2);
    }

    private static void saveChangesNothingElse() {
        sentence(33, "Saves m, the curve with the states of TABLE, the range, the points, the bucket and the division");
        CurveOrders x = busy();
        long sum = x.checksum();
        x.save(1);
        due("checksum()", x.checksum(), sum);
        due("clearText()", x.clearText(), 7);
        due("setCurve(HILBERT)", x.setCurve(HILBERT), HILBERT);
    }

    // promise 34

    private static void slotsOfRestore() {
        sentence(34, "slot: 0 or 1");
        for (int slot : NO_SLOTS) {
            refused("restore(" + slot + ")", x -> x.restore(slot), BAD_INDEX);
        }
        due("restore(0)", crowded().restore(0) > 0 ? 1 : 0, 1);
        due("restore(1)", crowded().restore(1), 1);
    }

    private static void nothingHasBeenSaved() {
        sentence(34, "NOT_POSSIBLE if nothing has been saved in the slot");
        refusedIn(CurveOrders::new, "restore(0)", x -> x.restore(0), NOT_POSSIBLE);
        refusedIn(CurveOrders::new, "restore(1)", x -> x.restore(1), NOT_POSSIBLE);
        refusedIn(BoundaryCases::busy, "restore(1) when slot 0 is used", x -> x.restore(1), NOT_POSSIBLE);
        refusedIn(BoundarySlotTest::withSlot1, "restore(0) when slot 1 is used", x -> x.restore(0), NOT_POSSIBLE);
        refusedIn(BoundarySlotTest::afterRefusedSave, "restore(0) after a refused save", x -> x.restore(0),
                NOT_POSSIBLE);
    }

    private static CurveOrders withSlot1() {
        CurveOrders x = unbalanced();
        x.balance();
        x.save(1);
        return x;
    }

    private static CurveOrders afterRefusedSave() {
        CurveOrders x = unbalanced();
        x.save(-1);
        x.save(2);
        return x;
    }

    private static void noSlotComesBeforeNothingSaved() {
        sentence(34, "Returns the number of leaves then; BAD_INDEX; NOT_POSSIBLE");
        refusedIn(CurveOrders::new, "restore(-1)", x -> x.restore(-1), BAD_INDEX);
        refusedIn(CurveOrders::new, "restore(2)", x -> x.restore(2), BAD_INDEX);
    }

    private static void everythingIsRestored() {
        sentence(34, "Makes everything as it was saved");
        CurveOrders x = busy();
        long sum = x.checksum();
        x.save(1);
        x.setLevels(6);
        x.setCurve(MORTON);
        x.setBucket(8);
        x.addPoint(63, 63);
        x.setRange(0, 0, 0, 0);
        x.restore(1);
        due("checksum()", x.checksum(), sum);
        due("intervals()", x.intervals(), 5);
        due("nearest(1, 1)", x.nearest(1, 1), x.index(1, 1));
        due("nearest(3, 0)", x.nearest(3, 0), x.index(3, 0));
        due("points()", x.points(), 3);
        due("setCurve(HILBERT)", x.setCurve(HILBERT), HILBERT);
        due("setBucket(1)", x.setBucket(1), 1);
        due("setLevels(3)", x.setLevels(3), 3);
    }

    private static void statesOfTableAreRestored() {
        sentence(33, "the curve with the states of TABLE");
        CurveOrders x = withTable(3, "32101111;01230000;");
        x.setCurve(MORTON);
        x.save(0);
        x.clearText();
        type(x, "10320000;");
        x.read();
        x.save(1);
        x.restore(0);
        due("setCurve(TABLE) from the restored MORTON", x.setCurve(TABLE), MORTON);
        due("states() of slot 0", x.states(), 2);
        due("visit(0, 0) of slot 0", x.visit(0, 0), 31);
        due("visit(1, 3) of slot 0", x.visit(1, 3), 30);
        x.restore(1);
        due("states() of slot 1", x.states(), 1);
        due("visit(0, 0) of slot 1", x.visit(0, 0), 10);
        due("index(1, 0) of slot 1", x.index(1, 0), 20);
    }

    private static void balancedLeavesAreRestored() {
        sentence(34, "(also leaves that were divided by balancing)");
        CurveOrders x = unbalanced();
        x.balance();
        long sum = x.checksum();
        x.save(0);
        x.setBucket(1);
        due("leaves() made anew", x.leaves(), 10);
        due("restore(0)", x.restore(0), 13);
        due("checksum()", x.checksum(), sum);
        due("balance()", x.balance(), 0);
        x.setBucket(1);
        due("leaves() made anew once more", x.leaves(), 10);
    }

    private static void leavesThatWereNotBalancedAreRestored() {
        sentence(34, "Makes everything as it was saved");
        CurveOrders x = unbalanced();
        x.save(0);
        x.balance();
        due("restore(0)", x.restore(0), 10);
        due("leaves()", x.leaves(), 10);
        due("balance()", x.balance(), 1);
    }

    private static void slotKeepsIt() {
        sentence(34, "The slot keeps it.");
        CurveOrders x = unbalanced();
        x.balance();
        x.setRange(1, 1, 4, 2);
        long sum = x.checksum();
        x.save(0);
        for (int i = 0; i < 3; i++) {
            due("restore(0)", x.restore(0), 13);
            due("checksum()", x.checksum(), sum);
            x.removePoint(2, 0);
            x.addPoint(i, 7);
            x.setRange(0, 0, i, 0);
            x.setBucket(2 + i);
            x.setCurve(i);
            x.balance();
        }
        due("restore(0) at last", x.restore(0), 13);
        due("checksum() at last", x.checksum(), sum);
    }

    private static void smallestAndGreatestGridAreRestored() {
        sentence(34, "Makes everything as it was saved");
        CurveOrders x = withPoints(1);
        long small = x.checksum();
        x.save(0);
        x.setLevels(6);
        x.addPoint(63, 63);
        x.addPoint(62, 63);
        x.balance();
        long great = x.checksum();
        x.save(1);
        due("restore(0)", x.restore(0), 4);
        due("checksum() of the smallest grid", x.checksum(), small);
        due("index(2, 0)", x.index(2, 0), BAD_INDEX);
        due("restore(1)", x.restore(1), 19);
        due("checksum() of the greatest grid", x.checksum(), great);
        due("index(63, 63)", x.index(63, 63), 4095);
    }

    private static void textIsNotSaved() {
        sentence(33, "Saves m, the curve with the states of TABLE, the range, the points, the bucket and the division");
        CurveOrders x = withText("01");
        x.save(0);
        type(x, "23");
        x.restore(0);
        due("append after restore(0)", x.append('0'), 5);
        due("faultPosition()", x.faultPosition(), 5);
        due("clearText()", x.clearText(), 5);
        x.restore(0);
        due("clearText() after restore(0)", x.clearText(), 0);
    }

    private static void leavesThen() {
        sentence(34, "Returns the number of leaves then");
        CurveOrders x = sevenLeaves();
        x.save(0);
        x.removePoint(0, 0);
        x.save(1);
        due("restore(0)", x.restore(0), 7);
        due("restore(1)", x.restore(1), 1);
        due("leaves()", x.leaves(), 1);
    }

    // promise 35

    /** What the document says of the sum, by the other calls. */
    private static long sumOf(CurveOrders x, int m, int bucket) {
        int states = x.states();
        long h = 31 * (31 * 73L + m) + states;
        for (int i = 0; i < 4 * states; i++) {
            h = 31 * h + x.visit(i / 4, i % 4);
        }
        int intervals = x.intervals();
        h = 31 * (31 * (31 * h + x.breaks()) + x.stretch()) + intervals;
        for (int i = 0; i < intervals; i++) {
            h = 31 * (31 * h + x.interval(i, false)) + x.interval(i, true);
        }
        int leaves = x.leaves();
        h = 31 * (31 * (31 * h + x.points()) + bucket) + leaves;
        for (int i = 0; i < 5 * leaves; i++) {
            h = 31 * h + x.leaf(i / 5, i % 5);
        }
        return h;
    }

    private static void checksumOfTheSmallest() {
        sentence(35, "It starts with h = 73");
        CurveOrders x = withCurve(1, MORTON);
        x.setBucket(8);
        x.setRange(0, 0, 0, 0);
        long h = 73;
        for (int value : new int[] {1, 1, 0, 10, 20, 30, 1, 2, 1, 0, 0, 0, 8, 1, 0, 0, 2, 0, 0}) {
            h = 31 * h + value;
        }
        due("checksum()", x.checksum(), h);
    }

    private static void checksumOfTheGreatest() {
        sentence(35, "h becomes 31 * h + value (as longs, with overflow)");
        CurveOrders x = withTable(6, "32107654;20310123;01234567;13201111;03120000;21302222;10323333;23016543;");
        x.setRange(1, 30, 20, 33);
        x.setBucket(8);
        for (int i = 0; i < 40; i++) {
            x.addPoint(i % 8, 63 - i / 8);
        }
        due("balance()", x.balance(), 3);
        due("checksum()", x.checksum(), sumOf(x, 6, 8));
    }

    private static void checksumChangesNothing() {
        sentence(35, "Computes a checksum.");
        CurveOrders x = busy();
        long sum = x.checksum();
        due("checksum() again", x.checksum(), sum);
        due("checksum() of a workbench made alike", busy().checksum(), sum);
        due("leaves(), which stay balanced", x.balance(), 0);
        due("clearText()", x.clearText(), 7);
    }

    // what holds for every call

    private static void bothSlotsOutliveEverything() {
        sentence(DESCRIPTION, "A call that reports an error changes nothing.");
        CurveOrders x = busy();
        x.save(1);
        long sum = x.checksum();
        int errors = 0;
        int[] answers = {x.setLevels(0), x.setCurve(3), x.visit(8, 0), x.index(8, 0), x.cell(64, true), x.append(128),
            x.read(), x.setRange(0, 0, 8, 0), x.interval(64, true), x.extra(0), x.covering(0, 0, true),
            x.covering(1, 1, true), x.clusters(9, 1), x.addPoint(8, 0), x.addPoint(1, 1), x.removePoint(8, 0),
            x.removePoint(7, 7), x.nearest(8, 0), x.setBucket(9), x.leaf(64, 0), x.leaf(0, 5), x.leafAt(8, 0),
            x.neighbours(64, 0), x.neighbour(0, 4, 0), x.neighbour(0, 0, -1), x.walk(64, 0), x.walked(0, 0, -1),
            x.save(2), x.restore(2)};
        for (int answer : answers) {
            errors += answer < 0 && answer != NONE ? 1 : 0;
        }
        due("the number of errors", errors, answers.length);
        due("checksum()", x.checksum(), sum);
        x.restore(1);
        due("checksum() of the slot", x.checksum(), sum);
    }

    private static void callsUpToTheLast() {
        sentence(DESCRIPTION, "An object is used for at most 512 calls after it has been made");
        CurveOrders x = withCurve(6, MORTON);
        int calls = 2;
        while (calls < MOST_CALLS - 5) {
            x.setCurve(calls % 3);
            x.addPoint(calls % 64, calls / 64);
            x.balance();
            x.save(calls % 2);
            x.restore(calls % 2);
            calls += 5;
        }
        due("setCurve(MORTON), call " + (calls + 1), x.setCurve(MORTON), (calls - 5) % 3);
        due("points(), call " + (calls + 2), x.points(), 40);
        due("nearest(0, 0), call " + (calls + 3), x.nearest(0, 0), 4);
        for (calls += 3; calls < MOST_CALLS - 1; calls++) {
            due("states(), call " + (calls + 1), x.states(), 1);
        }
        due("index(63, 63), call 512", x.index(63, 63), 4095);
    }
}
