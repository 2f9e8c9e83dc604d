import java.util.ArrayList;
import java.util.List;
import java.util.Random;

/** Runs of calls from fixed seeds, on a CurveOrders and on a PlainOrders side by side. */
public final class RandomRunsTest {
    private static final int RUNS = 1000;
    /** With those that only guide the choice, they stay below the 512 calls that an object is made for. */
    private static final int CALLS = 200;
    private static final int[] ODD_NUMBERS = {-1, -2, 0, 1, 2, 3, 4, 7, 8, 9, 40, 63, 64, 65, 127, 128, 4095, 4096,
        Integer.MAX_VALUE, Integer.MIN_VALUE, Integer.MAX_VALUE - 1, 1 << 30, -64, -4096};

    private final CurveOrders real = new CurveOrders();
    private final PlainOrders plain = new PlainOrders();
    private final Random random;
    private final int run;
    private int calls = 0;
    private int side = 8;
    private final int[] savedSides = {8, 8};

    private RandomRunsTest(int run) {
        this.run = run;
        this.random = new Random(1000L + run);
    }

    public static void main(String[] args) {
        for (int run = 0; run < RUNS && Check.wrongs() == 0; run++) {
            new RandomRunsTest(run).go();
        }
        Check.end();
    }

    private void go() {
        int levels = run % 20 == 0 ? 6 : 1 + random.nextInt(run % 4 == 0 ? 5 : 4);
        setLevels(levels);
        while (calls < CALLS && Check.wrongs() == 0) {
            step();
        }
        same("checksum()", real.checksum(), plain.checksum());
    }

    private void same(String call, long got, long due) {
        calls++;
        Check.same("run " + run + ", call " + calls + ": " + call, got, due);
    }

    private int below(int bound) {
        return random.nextInt(Math.max(1, bound));
    }

    /** Mostly a number below a bound, sometimes one that is odd. */
    private int number(int bound) {
        return random.nextInt(12) == 0 ? ODD_NUMBERS[below(ODD_NUMBERS.length)] : below(bound);
    }

    private int leaf() {
        return number(real.leaves() + (random.nextInt(10) == 0 ? 1 : 0));
    }

    private void step() {
        int choice = random.nextInt(100);
        if (choice < 26) {
            askCurve();
        } else if (choice < 46) {
            askRange();
        } else if (choice < 66) {
            changePoints();
        } else if (choice < 90) {
            askLeaves();
        } else if (choice < 94) {
            useSlots();
        } else {
            change();
        }
    }

    private void setLevels(int m) {
        same("setLevels(" + m + ")", real.setLevels(m), plain.setLevels(m));
        if (m >= 1 && m <= 6) {
            side = 1 << m;
        }
    }

    private void change() {
        switch (random.nextInt(8)) {
            case 0:
                if (random.nextInt(4) == 0) {
                    setLevels(random.nextInt(3) == 0 ? number(5) : 1 + below(4));
                }
                break;
            case 1:
            case 2: {
                int curve = number(3);
                same("setCurve(" + curve + ")", real.setCurve(curve), plain.setCurve(curve));
                break;
            }
            case 3: {
                int bucket = number(9);
                same("setBucket(" + bucket + ")", real.setBucket(bucket), plain.setBucket(bucket));
                break;
            }
            case 4:
                same("checksum()", real.checksum(), plain.checksum());
                break;
            case 5:
                append(number(128));
                askText();
                break;
            default:
                typeText();
                break;
        }
    }

    private void append(int letter) {
        same("append(" + letter + ")", real.append(letter), plain.append(letter));
    }

    private void askText() {
        same("faultPosition()", real.faultPosition(), plain.faultPosition());
        same("read()", real.read(), plain.read());
    }

    /** A text of states that is right, but for some byte now and then. */
    private void typeText() {
        if (random.nextInt(8) != 0) {
            same("clearText()", real.clearText(), plain.clearText());
        }
        int states = 1 + below(random.nextInt(5) == 0 ? 9 : 3);
        StringBuilder text = new StringBuilder();
        for (int state = 0; state < states; state++) {
            List<Integer> quarters = new ArrayList<>(List.of(0, 1, 2, 3));
            while (!quarters.isEmpty()) {
                text.append(quarters.remove(below(quarters.size())));
            }
            for (int place = 0; place < 4; place++) {
                text.append(below(states) % 10);
            }
            text.append(';');
        }
        if (random.nextInt(3) == 0) {
            text.setCharAt(below(text.length()), "0123456789;:/x".charAt(below(14)));
        }
        if (random.nextInt(8) == 0) {
            text.setLength(below(text.length()));
        }
        for (int i = 0; i < text.length(); i++) {
            append(text.charAt(i));
        }
        askText();
    }

    private void askCurve() {
        int x = number(side);
        int y = number(side);
        switch (random.nextInt(7)) {
            case 0:
                same("states()", real.states(), plain.states());
                break;
            case 1: {
                int state = number(real.states());
                int place = number(4);
                same("visit(" + state + ", " + place + ")", real.visit(state, place), plain.visit(state, place));
                break;
            }
            case 2:
                same("breaks()", real.breaks(), plain.breaks());
                break;
            case 3:
                same("stretch()", real.stretch(), plain.stretch());
                break;
            case 4: {
                int index = number(side * side);
                boolean vertical = random.nextBoolean();
                same("cell(" + index + ", " + vertical + ")", real.cell(index, vertical),
                        plain.cell(index, vertical));
                break;
            }
            case 5:
                same("nearest(" + x + ", " + y + ")", real.nearest(x, y), plain.nearest(x, y));
                break;
            default:
                same("index(" + x + ", " + y + ")", real.index(x, y), plain.index(x, y));
                break;
        }
    }

    private void askRange() {
        int k = number(random.nextBoolean() ? 6 : real.intervals() + 2);
        boolean last = random.nextBoolean();
        switch (random.nextInt(8)) {
            case 0:
            case 1: {
                int left = number(side);
                int low = number(side);
                int right = number(side);
                int high = number(side);
                if (random.nextInt(8) != 0) {
                    int swap = left;
                    left = Math.min(left, right);
                    right = Math.max(swap, right);
                    swap = low;
                    low = Math.min(low, high);
                    high = Math.max(swap, high);
                }
                same("setRange(" + left + ", " + low + ", " + right + ", " + high + ")",
                        real.setRange(left, low, right, high), plain.setRange(left, low, right, high));
                break;
            }
            case 2:
                same("intervals()", real.intervals(), plain.intervals());
                break;
            case 3: {
                int interval = number(real.intervals() + 1);
                same("interval(" + interval + ", " + last + ")", real.interval(interval, last),
                        plain.interval(interval, last));
                break;
            }
            case 4:
                same("extra(" + k + ")", real.extra(k), plain.extra(k));
                break;
            case 5:
            case 6: {
                int interval = number(Math.min(k, real.intervals()));
                same("covering(" + k + ", " + interval + ", " + last + ")", real.covering(k, interval, last),
                        plain.covering(k, interval, last));
                break;
            }
            default:
                int width = number(side + 1);
                int height = number(side + 1);
                if (side < 64 || random.nextInt(20) == 0) {
                    same("clusters(" + width + ", " + height + ")", real.clusters(width, height),
                            plain.clusters(width, height));
                }
                break;
        }
    }

    private void changePoints() {
        int x = number(side);
        int y = number(side);
        if (random.nextInt(5) == 0) {
            same("removePoint(" + x + ", " + y + ")", real.removePoint(x, y), plain.removePoint(x, y));
            same("points()", real.points(), plain.points());
            return;
        }
        same("addPoint(" + x + ", " + y + ")", real.addPoint(x, y), plain.addPoint(x, y));
        if (random.nextBoolean() && x < side) {
            int beside = x ^ 1;
            same("addPoint(" + beside + ", " + y + ")", real.addPoint(beside, y), plain.addPoint(beside, y));
        }
    }

    private void askLeaves() {
        int leaf = leaf();
        int at = number(4);
        switch (random.nextInt(8)) {
            case 0:
                same("leaves()", real.leaves(), plain.leaves());
                break;
            case 1: {
                int what = number(5);
                same("leaf(" + leaf + ", " + what + ")", real.leaf(leaf, what), plain.leaf(leaf, what));
                break;
            }
            case 2: {
                int x = number(side);
                int y = number(side);
                same("leafAt(" + x + ", " + y + ")", real.leafAt(x, y), plain.leafAt(x, y));
                break;
            }
            case 3:
                same("neighbours(" + leaf + ", " + at + ")", real.neighbours(leaf, at), plain.neighbours(leaf, at));
                break;
            case 4: {
                int rank = number(3);
                same("neighbour(" + leaf + ", " + at + ", " + rank + ")", real.neighbour(leaf, at, rank),
                        plain.neighbour(leaf, at, rank));
                break;
            }
            case 5:
                if (random.nextBoolean()) {
                    same("balance()", real.balance(), plain.balance());
                    same("leaves()", real.leaves(), plain.leaves());
                }
                break;
            case 6:
                same("walk(" + leaf + ", " + at + ")", real.walk(leaf, at), plain.walk(leaf, at));
                break;
            default:
                int steps = number(6);
                same("walked(" + leaf + ", " + at + ", " + steps + ")", real.walked(leaf, at, steps),
                        plain.walked(leaf, at, steps));
                break;
        }
    }

    private void useSlots() {
        int slot = number(2);
        if (random.nextBoolean()) {
            same("save(" + slot + ")", real.save(slot), plain.save(slot));
            if (slot == 0 || slot == 1) {
                savedSides[slot] = side;
            }
        } else {
            int answer = real.restore(slot);
            same("restore(" + slot + ")", answer, plain.restore(slot));
            if (answer >= 0) {
                side = savedSides[slot];
            }
        }
    }
}
