import java.util.ArrayList;
import java.util.Collections;
import java.util.List;
import java.util.TreeSet;
import java.util.regex.Matcher;
import java.util.regex.Pattern;

/**
 * The document once more, told as literally and as slowly as its words, with nothing taken from CurveOrders.
 * Errors of arguments are told by the document's numbers.
 */
final class PlainOrders {
    private static final String MORTON_TEXT = "01230000;";
    private static final String HILBERT_TEXT = "02311002;01320113;32013220;31022331;";
    private static final Pattern FORM = Pattern.compile("(?:[0-3]{4}[0-9]{4};){1,8}");

    /** A square of the division; divided squares have quarters, by their places 0 to 3 in the document's sense. */
    private static final class Square {
        final int x;
        final int y;
        final int side;
        Square[] quarters;

        Square(int x, int y, int side) {
            this.x = x;
            this.y = y;
            this.side = side;
        }

        void divide() {
            int half = side / 2;
            quarters = new Square[] {new Square(x, y, half), new Square(x + half, y, half),
                    new Square(x, y + half, half), new Square(x + half, y + half, half)};
        }

        Square copy() {
            Square made = new Square(x, y, side);
            if (quarters != null) {
                made.quarters = new Square[4];
                for (int i = 0; i < 4; i++) {
                    made.quarters[i] = quarters[i].copy();
                }
            }
            return made;
        }

        boolean has(int[] cell) {
            return cell[0] >= x && cell[0] < x + side && cell[1] >= y && cell[1] < y + side;
        }
    }

    /** What a slot keeps. */
    private static final class Kept {
        int m = 3;
        int curve = 0;
        String table = MORTON_TEXT;
        int[] range = {0, 0, 7, 7};
        List<int[]> points = new ArrayList<>();
        int bucket = 2;
        Square root = new Square(0, 0, 8);

        Kept copy() {
            Kept made = new Kept();
            made.m = m;
            made.curve = curve;
            made.table = table;
            made.range = range.clone();
            made.points = new ArrayList<>(points);
            made.bucket = bucket;
            made.root = root.copy();
            return made;
        }
    }

    private Kept now = new Kept();
    private final Kept[] slots = new Kept[2];
    private String text = "";

    private int n() {
        return 1 << now.m;
    }

    private boolean inGrid(int x, int y) {
        return x >= 0 && y >= 0 && x < n() && y < n();
    }

    private String curveText() {
        return now.curve == 0 ? MORTON_TEXT : now.curve == 1 ? HILBERT_TEXT : now.table;
    }

    private int quarter(int state, int place) {
        return curveText().charAt(9 * state + place) - '0';
    }

    private int nextState(int state, int place) {
        return curveText().charAt(9 * state + 4 + place) - '0';
    }

    private List<int[]> cells() {
        List<int[]> made = new ArrayList<>();
        visitCells(made, 0, 0, n(), 0);
        return made;
    }

    private void visitCells(List<int[]> made, int x, int y, int side, int state) {
        if (side == 1) {
            made.add(new int[] {x, y});
            return;
        }
        for (int place = 0; place < 4; place++) {
            int quarter = quarter(state, place);
            int half = side / 2;
            visitCells(made, quarter % 2 == 1 ? x + half : x, quarter >= 2 ? y + half : y, half,
                    nextState(state, place));
        }
    }

    private static boolean touch(int[] a, int[] b) {
        return a[0] == b[0] && Math.abs(a[1] - b[1]) == 1 || a[1] == b[1] && Math.abs(a[0] - b[0]) == 1;
    }

    int setLevels(int m) {
        if (m < 1 || m > 6) {
            return -2;
        }
        int before = now.m;
        now.m = m;
        now.range = new int[] {0, 0, n() - 1, n() - 1};
        now.points = new ArrayList<>();
        divideAnew();
        return before;
    }

    int setCurve(int curve) {
        if (curve < 0 || curve > 2) {
            return -2;
        }
        int before = now.curve;
        now.curve = curve;
        divideAnew();
        return before;
    }

    int states() {
        return curveText().length() / 9;
    }

    int visit(int state, int place) {
        if (state < 0 || state >= states() || place < 0 || place > 3) {
            return -1;
        }
        return 10 * quarter(state, place) + nextState(state, place);
    }

    int index(int x, int y) {
        if (!inGrid(x, y)) {
            return -1;
        }
        List<int[]> cells = cells();
        int i = 0;
        while (cells.get(i)[0] != x || cells.get(i)[1] != y) {
            i++;
        }
        return i;
    }

    int cell(int index, boolean vertical) {
        return index < 0 || index >= n() * n() ? -1 : cells().get(index)[vertical ? 1 : 0];
    }

    int breaks() {
        List<int[]> cells = cells();
        int count = 0;
        for (int i = 0; i <= n() * n() - 2; i++) {
            count += touch(cells.get(i), cells.get(i + 1)) ? 0 : 1;
        }
        return count;
    }

    int stretch() {
        int[][] numbers = new int[n()][n()];
        int i = 0;
        for (int[] cell : cells()) {
            numbers[cell[0]][cell[1]] = i++;
        }
        int greatest = 0;
        for (int x = 0; x < n(); x++) {
            for (int y = 0; y < n(); y++) {
                for (int[] step : new int[][] {{1, 0}, {0, 1}, {-1, 0}, {0, -1}}) {
                    if (inGrid(x + step[0], y + step[1])) {
                        greatest = Math.max(greatest, numbers[x][y] - numbers[x + step[0]][y + step[1]]);
                    }
                }
            }
        }
        return greatest;
    }

    int append(int letter) {
        if (letter < 0 || letter > 127) {
            return -2;
        }
        if (text.length() == 80) {
            return -4;
        }
        text += (char) letter;
        return text.length();
    }

    int clearText() {
        int before = text.length();
        text = "";
        return before;
    }

    private static boolean hasForm(String told) {
        return tellsQuartersOnce(told) && FORM.matcher(told).matches();
    }

    private static boolean tellsQuartersOnce(String told) {
        for (int i = 0; i < told.length(); i++) {
            if (i % 9 < 4 && told.substring(i - i % 9, i).indexOf(told.charAt(i)) >= 0) {
                return false;
            }
        }
        return true;
    }

    /** Whether the text can be the beginning of one that has the form. */
    private static boolean canBegin(String told) {
        Matcher matcher = FORM.matcher(told);
        return tellsQuartersOnce(told) && (matcher.matches() || matcher.hitEnd());
    }

    int faultPosition() {
        for (int i = 0; i < text.length(); i++) {
            if (!canBegin(text.substring(0, i + 1))) {
                return i;
            }
        }
        if (!hasForm(text)) {
            return text.length();
        }
        for (int i = 0; i < text.length(); i++) {
            if (i % 9 >= 4 && i % 9 <= 7 && text.charAt(i) - '0' >= text.length() / 9) {
                return i;
            }
        }
        return -5;
    }

    int read() {
        if (faultPosition() != -5) {
            return -3;
        }
        now.table = text;
        now.curve = 2;
        divideAnew();
        return states();
    }

    int setRange(int left, int below, int right, int above) {
        if (left < 0 || left >= n() || below < 0 || below >= n() || right < left || right >= n() || above < below
                || above >= n()) {
            return -2;
        }
        now.range = new int[] {left, below, right, above};
        return (right - left + 1) * (above - below + 1);
    }

    private List<int[]> intervalsOf(List<int[]> cells, int[] range) {
        List<int[]> made = new ArrayList<>();
        for (int i = 0; i < cells.size(); i++) {
            int[] cell = cells.get(i);
            if (cell[0] < range[0] || cell[1] < range[1] || cell[0] > range[2] || cell[1] > range[3]) {
                continue;
            }
            if (!made.isEmpty() && made.get(made.size() - 1)[1] == i - 1) {
                made.get(made.size() - 1)[1] = i;
            } else {
                made.add(new int[] {i, i});
            }
        }
        return made;
    }

    private List<int[]> rangeIntervals() {
        return intervalsOf(cells(), now.range);
    }

    int intervals() {
        return rangeIntervals().size();
    }

    int interval(int interval, boolean last) {
        List<int[]> all = rangeIntervals();
        return interval < 0 || interval >= all.size() ? -1 : all.get(interval)[last ? 1 : 0];
    }

    private List<int[]> covered(int k) {
        List<int[]> all = rangeIntervals();
        while (all.size() > k) {
            int shortest = 0;
            for (int i = 1; i + 1 < all.size(); i++) {
                if (all.get(i + 1)[0] - all.get(i)[1] < all.get(shortest + 1)[0] - all.get(shortest)[1]) {
                    shortest = i;
                }
            }
            all.get(shortest)[1] = all.remove(shortest + 1)[1];
        }
        return all;
    }

    int extra(int k) {
        if (k < 1) {
            return -2;
        }
        int sum = 0;
        for (int[] interval : covered(k)) {
            sum += interval[1] - interval[0] + 1;
        }
        return sum - (now.range[2] - now.range[0] + 1) * (now.range[3] - now.range[1] + 1);
    }

    int covering(int k, int interval, boolean last) {
        if (k < 1) {
            return -2;
        }
        List<int[]> all = covered(k);
        return interval < 0 || interval >= all.size() ? -1 : all.get(interval)[last ? 1 : 0];
    }

    int clusters(int width, int height) {
        if (width < 1 || width > n() || height < 1 || height > n()) {
            return -2;
        }
        List<int[]> cells = cells();
        int sum = 0;
        for (int x = 0; x + width <= n(); x++) {
            for (int y = 0; y + height <= n(); y++) {
                sum += intervalsOf(cells, new int[] {x, y, x + width - 1, y + height - 1}).size();
            }
        }
        return sum;
    }

    private int pointAt(int x, int y) {
        for (int i = 0; i < now.points.size(); i++) {
            if (now.points.get(i)[0] == x && now.points.get(i)[1] == y) {
                return i;
            }
        }
        return -1;
    }

    int addPoint(int x, int y) {
        if (!inGrid(x, y)) {
            return -1;
        }
        if (pointAt(x, y) >= 0) {
            return -3;
        }
        if (now.points.size() == 40) {
            return -4;
        }
        now.points.add(new int[] {x, y});
        divideAnew();
        return now.points.size();
    }

    int removePoint(int x, int y) {
        if (!inGrid(x, y)) {
            return -1;
        }
        if (pointAt(x, y) < 0) {
            return -3;
        }
        now.points.remove(pointAt(x, y));
        divideAnew();
        return now.points.size();
    }

    int points() {
        return now.points.size();
    }

    int nearest(int x, int y) {
        if (!inGrid(x, y)) {
            return -1;
        }
        List<Integer> numbers = new ArrayList<>();
        for (int[] point : now.points) {
            numbers.add(index(point[0], point[1]));
        }
        Collections.sort(numbers);
        int from = index(x, y);
        int best = -5;
        for (int number : numbers) {
            if (best == -5 || Math.abs(number - from) < Math.abs(best - from)) {
                best = number;
            }
        }
        return best;
    }

    int setBucket(int bucket) {
        if (bucket < 1 || bucket > 8) {
            return -2;
        }
        int before = now.bucket;
        now.bucket = bucket;
        divideAnew();
        return before;
    }

    private int pointsIn(Square square) {
        int count = 0;
        for (int[] point : now.points) {
            count += square.has(point) ? 1 : 0;
        }
        return count;
    }

    private void divideAnew() {
        now.root = new Square(0, 0, n());
        divideFully(now.root);
    }

    private void divideFully(Square square) {
        if (square.side > 1 && pointsIn(square) > now.bucket) {
            square.divide();
            for (Square quarter : square.quarters) {
                divideFully(quarter);
            }
        }
    }

    private List<Square> allLeaves() {
        List<Square> made = new ArrayList<>();
        visitLeaves(made, now.root, 0);
        return made;
    }

    private void visitLeaves(List<Square> made, Square square, int state) {
        if (square.quarters == null) {
            made.add(square);
            return;
        }
        for (int place = 0; place < 4; place++) {
            visitLeaves(made, square.quarters[quarter(state, place)], nextState(state, place));
        }
    }

    int leaves() {
        return allLeaves().size();
    }

    int leaf(int leaf, int what) {
        List<Square> all = allLeaves();
        if (leaf < 0 || leaf >= all.size()) {
            return -1;
        }
        Square square = all.get(leaf);
        switch (what) {
            case 0:
                return square.x;
            case 1:
                return square.y;
            case 2:
                return square.side;
            case 3:
                return pointsIn(square);
            case 4:
                List<int[]> cells = cells();
                int i = 0;
                while (!square.has(cells.get(i))) {
                    i++;
                }
                return i;
            default:
                return -2;
        }
    }

    int leafAt(int x, int y) {
        if (!inGrid(x, y)) {
            return -1;
        }
        List<Square> all = allLeaves();
        int i = 0;
        while (!all.get(i).has(new int[] {x, y})) {
            i++;
        }
        return i;
    }

    private static boolean overlap(int from, int length, int otherFrom, int otherLength) {
        return Math.min(from + length, otherFrom + otherLength) - Math.max(from, otherFrom) >= 1;
    }

    private static boolean isBeyond(Square a, int side, Square b) {
        switch (side) {
            case 0:
                return b.x + b.side == a.x && overlap(a.y, a.side, b.y, b.side);
            case 1:
                return a.x + a.side == b.x && overlap(a.y, a.side, b.y, b.side);
            case 2:
                return b.y + b.side == a.y && overlap(a.x, a.side, b.x, b.side);
            default:
                return a.y + a.side == b.y && overlap(a.x, a.side, b.x, b.side);
        }
    }

    private List<Integer> beyond(List<Square> all, int leaf, int side) {
        TreeSet<Integer> made = new TreeSet<>();
        for (int i = 0; i < all.size(); i++) {
            if (isBeyond(all.get(leaf), side, all.get(i))) {
                made.add(i);
            }
        }
        return new ArrayList<>(made);
    }

    private boolean wrongLeafOrSide(int leaf, int side) {
        return leaf < 0 || leaf >= leaves() || side < 0 || side > 3;
    }

    int neighbours(int leaf, int side) {
        return wrongLeafOrSide(leaf, side) ? -1 : beyond(allLeaves(), leaf, side).size();
    }

    int neighbour(int leaf, int side, int rank) {
        if (wrongLeafOrSide(leaf, side) || rank < 0) {
            return -1;
        }
        List<Integer> found = beyond(allLeaves(), leaf, side);
        return rank < found.size() ? found.get(rank) : -5;
    }

    int balance() {
        int divided = 0;
        Square next = firstTooLarge();
        while (next != null) {
            next.divide();
            divided++;
            next = firstTooLarge();
        }
        return divided;
    }

    private Square firstTooLarge() {
        List<Square> all = allLeaves();
        for (Square square : all) {
            for (Square other : all) {
                for (int side = 0; side < 4; side++) {
                    if (isBeyond(square, side, other) && other.side * 2 < square.side) {
                        return square;
                    }
                }
            }
        }
        return null;
    }

    private List<Integer> path(int leaf, int side) {
        List<Square> all = allLeaves();
        List<Integer> made = new ArrayList<>();
        made.add(leaf);
        List<Integer> next = beyond(all, leaf, side);
        while (!next.isEmpty()) {
            made.add(next.get(0));
            next = beyond(all, next.get(0), side);
        }
        return made;
    }

    int walk(int leaf, int side) {
        return wrongLeafOrSide(leaf, side) ? -1 : path(leaf, side).size() - 1;
    }

    int walked(int leaf, int side, int steps) {
        if (wrongLeafOrSide(leaf, side) || steps < 0) {
            return -1;
        }
        List<Integer> path = path(leaf, side);
        return steps < path.size() ? path.get(steps) : -5;
    }

    int save(int slot) {
        if (slot < 0 || slot > 1) {
            return -1;
        }
        slots[slot] = now.copy();
        return leaves();
    }

    int restore(int slot) {
        if (slot < 0 || slot > 1) {
            return -1;
        }
        if (slots[slot] == null) {
            return -3;
        }
        now = slots[slot].copy();
        return leaves();
    }

    long checksum() {
        List<Long> values = new ArrayList<>();
        values.add((long) now.m);
        values.add((long) states());
        for (int state = 0; state < states(); state++) {
            for (int place = 0; place < 4; place++) {
                values.add((long) visit(state, place));
            }
        }
        values.add((long) breaks());
        values.add((long) stretch());
        List<int[]> intervals = rangeIntervals();
        values.add((long) intervals.size());
        for (int[] interval : intervals) {
            values.add((long) interval[0]);
            values.add((long) interval[1]);
        }
        values.add((long) points());
        values.add((long) now.bucket);
        values.add((long) leaves());
        for (int i = 0; i < leaves(); i++) {
            for (int what = 0; what <= 4; what++) {
                values.add((long) leaf(i, what));
            }
        }
        long h = 73;
        for (long value : values) {
            h = 31 * h + value;
        }
        return h;
    }
}
