import java.util.NoSuchElementException;

/**
 * Places with borders and names by the day, old maps placed by marks, findspots masked by grids.
 *
 * <p>All sums are exact: a point's coordinates are at most 10000 away from 0, so that a
 * square of a distance fits an int, and all that may be larger is counted in longs.
 */
public final class BorderDays {
    public static final int NONE = -1;

    private static final int MAX_PLACES = 16;
    private static final int MAX_SHAPES = 32;
    private static final int MIN_CORNERS = 3;
    private static final int MAX_CORNERS = 12;
    private static final int MAX_NAMES = 40;
    private static final int MAX_MARKS = 12;
    private static final int FARTHEST = 10000;
    private static final int LAST_DAY = 100000;
    private static final int LARGEST_CELL = 10000;
    private static final int AXIS_X = 0;
    private static final int AXIS_Y = 1;

    private final int[] parents;
    private int placeCount;
    private final Shape[] shapes;
    private int shapeCount;
    private int closings;
    private final Names names;
    private final OldMap oldMap;

    public BorderDays() {
        parents = new int[MAX_PLACES];
        shapes = new Shape[MAX_SHAPES];
        names = new Names();
        oldMap = new OldMap();
    }

    public int place(int parent) throws NoSuchElementException, IllegalStateException {
        if (parent != NONE) {
            requirePlace(parent);
        }
        if (placeCount >= MAX_PLACES) {
            throw new IllegalStateException("there are sixteen places");
        }
        parents[placeCount] = parent;
        placeCount++;
        return placeCount - 1;
    }

    public int shape(int place, int from, int to)
            throws NoSuchElementException, IllegalArgumentException, IllegalStateException {
        requirePlace(place);
        requireSpan(from, to);
        if (shapeCount >= MAX_SHAPES) {
            throw new IllegalStateException("there are 32 shapes");
        }
        shapes[shapeCount] = new Shape(shapeCount, place, from, to);
        shapeCount++;
        return shapeCount - 1;
    }

    public int corner(int shape, int x, int y)
            throws NoSuchElementException, IllegalArgumentException, IllegalStateException {
        Shape grown = shapeNumbered(shape);
        requirePoint(x, y);
        if (grown.isClosed() || grown.isFull()) {
            throw new IllegalStateException("the shape is closed or has twelve corners");
        }
        return grown.addCorner(x, y);
    }

    public boolean close(int shape) throws NoSuchElementException {
        Shape closing = shapeNumbered(shape);
        if (!closing.canClose()) {
            return false;
        }
        closings++;
        closing.closedAs = closings;
        return true;
    }

    public boolean unsure(int shape, int other) throws NoSuchElementException {
        Shape one = shapeNumbered(shape);
        Shape two = shapeNumbered(other);
        if (one == two || one.owner != two.owner || !one.isClosed() || !two.isClosed()) {
            return false;
        }
        one.leavePartner();
        two.leavePartner();
        one.partner = two;
        two.partner = one;
        return true;
    }

    public int force(int place, int day) throws NoSuchElementException, IllegalArgumentException {
        requirePlace(place);
        requireDay(day);
        Shape current = shapeOn(place, day);
        return current == null ? NONE : current.number;
    }

    public int inside(int x, int y, int day, int k)
            throws NoSuchElementException, IllegalArgumentException {
        requireRank(k);
        requirePoint(x, y);
        requireDay(day);
        int before = k;
        for (int place = 0; place < placeCount; place++) {
            Shape current = shapeOn(place, day);
            if (current != null && current.contains(x, y)) {
                if (before == 0) {
                    return place;
                }
                before--;
            }
        }
        return NONE;
    }

    public int threeWay(int place, int x, int y, int day)
            throws NoSuchElementException, IllegalArgumentException {
        requirePlace(place);
        requirePoint(x, y);
        requireDay(day);
        Shape current = shapeOn(place, day);
        if (current == null) {
            return NONE;
        }
        // A shape without a partner stands for both, so that it answers 2 or 0 alone.
        Shape partner = current.partner == null ? current : current.partner;
        return (current.contains(x, y) ? 1 : 0) + (partner.contains(x, y) ? 1 : 0);
    }

    public int area(int place, int day) throws NoSuchElementException, IllegalArgumentException {
        requirePlace(place);
        requireDay(day);
        Shape current = shapeOn(place, day);
        return current == null ? 0 : current.doubledArea();
    }

    public int misfit(int k, int day) throws NoSuchElementException, IllegalArgumentException {
        requireRank(k);
        requireDay(day);
        int before = k;
        for (int place = 0; place < placeCount; place++) {
            if (misfitsOn(place, day)) {
                if (before == 0) {
                    return place;
                }
                before--;
            }
        }
        return NONE;
    }

    public int distance(int a, int b, int day)
            throws NoSuchElementException, IllegalArgumentException {
        requirePlace(a);
        requirePlace(b);
        requireDay(day);
        Shape one = shapeOn(a, day);
        Shape two = shapeOn(b, day);
        return one == null || two == null ? NONE : one.leastSquareTo(two);
    }

    public void name(int place, int n, int from, int to)
            throws NoSuchElementException, IllegalArgumentException, IllegalStateException {
        requirePlace(place);
        requireSpan(from, to);
        if (n < 0) {
            throw new IllegalArgumentException("a name is below 0");
        }
        if (names.isFull()) {
            throw new IllegalStateException("there are 40 names");
        }
        names.add(place, n, from, to);
    }

    public int nameOn(int place, int day) throws NoSuchElementException, IllegalArgumentException {
        requirePlace(place);
        requireDay(day);
        return names.find(place, day);
    }

    public int mark(int mapX, int mapY, int x, int y)
            throws IllegalArgumentException, IllegalStateException {
        requirePoint(mapX, mapY);
        requirePoint(x, y);
        if (oldMap.isFull()) {
            throw new IllegalStateException("there are twelve marks");
        }
        return oldMap.add(mapX, mapY, x, y);
    }

    public int placed(int mapX, int mapY, int axis)
            throws NoSuchElementException, IllegalArgumentException, IllegalStateException {
        requireAxis(axis);
        requirePoint(mapX, mapY);
        return oldMap.find(mapX, mapY, axis);
    }

    public int masked(int x, int y, int size, int axis)
            throws NoSuchElementException, IllegalArgumentException {
        requireAxis(axis);
        requirePoint(x, y);
        if (size < 1 || size > LARGEST_CELL) {
            throw new IllegalArgumentException("a cell's size is not 1 to 10000");
        }
        // Cells below 0 too begin at their lowest side, so the division must round down.
        return Math.floorDiv(axis == AXIS_X ? x : y, size) * size;
    }

    private Shape shapeNumbered(int number) {
        if (number < 0 || number >= shapeCount) {
            throw new NoSuchElementException("there is no such shape");
        }
        return shapes[number];
    }

    private Shape shapeOn(int place, int day) {
        Shape latest = null;
        for (int i = 0; i < shapeCount; i++) {
            Shape each = shapes[i];
            if (each.holdsFor(place, day) && (latest == null || each.closedAs > latest.closedAs)) {
                latest = each;
            }
        }
        return latest;
    }

    private boolean misfitsOn(int place, int day) {
        int parent = parents[place];
        if (parent == NONE) {
            return false;
        }
        Shape own = shapeOn(place, day);
        Shape around = shapeOn(parent, day);
        return own != null && around != null && !around.containsCornersOf(own);
    }

    private void requirePlace(int place) {
        if (place < 0 || place >= placeCount) {
            throw new NoSuchElementException("there is no such place");
        }
    }

    private static void requireRank(int k) {
        if (k < 0) {
            throw new NoSuchElementException("k is below 0");
        }
    }

    private static void requireAxis(int axis) {
        if (axis != AXIS_X && axis != AXIS_Y) {
            throw new NoSuchElementException("there is no such axis");
        }
    }

    private static void requireDay(int day) {
        if (day < 0 || day > LAST_DAY) {
            throw new IllegalArgumentException("a day is not 0 to 100000");
        }
    }

    private static void requireSpan(int from, int to) {
        requireDay(from);
        requireDay(to);
        if (from > to) {
            throw new IllegalArgumentException("the first day is above the last");
        }
    }

    private static void requirePoint(int x, int y) {
        if (x < -FARTHEST || x > FARTHEST || y < -FARTHEST || y > FARTHEST) {
            throw new IllegalArgumentException("a point is not within -10000 to 10000");
        }
    }

    /** Twice the area of the triangle a, b, c: above 0 if c is left of the way from a to b. */
    private static long turn(int ax, int ay, int bx, int by, int cx, int cy) {
        return (long) (bx - ax) * (cy - ay) - (long) (by - ay) * (cx - ax);
    }

    private static boolean isBetween(int end, int otherEnd, int value) {
        return Math.min(end, otherEnd) <= value && value <= Math.max(end, otherEnd);
    }

    /** A border for some days; line i goes from corner i to the next one. */
    private static final class Shape {
        final int number;
        final int owner;
        private final int from;
        private final int to;
        private final int[] xs;
        private final int[] ys;
        private int count;
        /** 0 while it is open, then a number that is higher the later it was closed. */
        int closedAs;
        /** The shape that this one is unsure with, or null. */
        Shape partner;

        Shape(int number, int owner, int from, int to) {
            this.number = number;
            this.owner = owner;
            this.from = from;
            this.to = to;
            xs = new int[MAX_CORNERS];
            ys = new int[MAX_CORNERS];
        }

        boolean isClosed() {
            return closedAs > 0;
        }

        boolean isFull() {
            return count >= MAX_CORNERS;
        }

        boolean holdsFor(int place, int day) {
            return isClosed() && owner == place && from <= day && day <= to;
        }

        int addCorner(int x, int y) {
            xs[count] = x;
            ys[count] = y;
            count++;
            return count;
        }

        void leavePartner() {
            if (partner != null) {
                partner.partner = null;
                partner = null;
            }
        }

        boolean canClose() {
            if (isClosed() || count < MIN_CORNERS) {
                return false;
            }
            for (int i = 0; i < count; i++) {
                for (int j = i + 1; j < count; j++) {
                    if (sameCorner(i, j) || linesClash(i, j)) {
                        return false;
                    }
                }
            }
            return true;
        }

        boolean contains(int x, int y) {
            boolean within = false;
            for (int i = 0; i < count; i++) {
                if (isOnLine(i, x, y)) {
                    return true;
                }
                if (isLineRightOf(i, x, y)) {
                    within = !within;
                }
            }
            return within;
        }

        boolean containsCornersOf(Shape child) {
            for (int i = 0; i < child.count; i++) {
                if (!contains(child.xs[i], child.ys[i])) {
                    return false;
                }
            }
            return true;
        }

        int doubledArea() {
            long sum = 0;
            for (int i = 0; i < count; i++) {
                sum += turn(0, 0, xs[i], ys[i], xs[next(i)], ys[next(i)]);
            }
            // Corners may go round either way, which alone tells the sign.
            return (int) Math.abs(sum);
        }

        int leastSquareTo(Shape other) {
            int least = squareBetween(0, other, 0);
            for (int i = 0; i < count; i++) {
                for (int j = 0; j < other.count; j++) {
                    least = Math.min(least, squareBetween(i, other, j));
                }
            }
            return least;
        }

        private int squareBetween(int corner, Shape other, int otherCorner) {
            int dx = xs[corner] - other.xs[otherCorner];
            int dy = ys[corner] - other.ys[otherCorner];
            return dx * dx + dy * dy;
        }

        private int next(int i) {
            return i + 1 < count ? i + 1 : 0;
        }

        private boolean sameCorner(int i, int j) {
            return xs[i] == xs[j] && ys[i] == ys[j];
        }

        private boolean linesClash(int i, int j) {
            if (next(i) == j) {
                return foldsBack(i, j);
            }
            if (next(j) == i) {
                return foldsBack(j, i);
            }
            return hasCorner(i, j) || hasCorner(i, next(j))
                    || hasCorner(j, i) || hasCorner(j, next(i))
                    || (parts(i, j) && parts(j, i));
        }

        /** Lines that follow one another share more than their corner if one ends on the other. */
        private boolean foldsBack(int line, int following) {
            return hasCorner(line, next(following)) || hasCorner(following, line);
        }

        private boolean hasCorner(int line, int corner) {
            return isOnLine(line, xs[corner], ys[corner]);
        }

        private boolean parts(int line, int other) {
            long start = side(line, xs[other], ys[other]);
            long end = side(line, xs[next(other)], ys[next(other)]);
            return (start < 0 && end > 0) || (start > 0 && end < 0);
        }

        private boolean isOnLine(int line, int x, int y) {
            int end = next(line);
            return isBetween(xs[line], xs[end], x) && isBetween(ys[line], ys[end], y)
                    && side(line, x, y) == 0;
        }

        /**
         * Of a line's two ends only the lower one counts as met, so that a way to the right
         * through a corner is not counted twice.
         */
        private boolean isLineRightOf(int line, int x, int y) {
            int end = next(line);
            if (ys[line] <= y && y < ys[end]) {
                return side(line, x, y) > 0;
            }
            return ys[end] <= y && y < ys[line] && side(line, x, y) < 0;
        }

        private long side(int line, int x, int y) {
            int end = next(line);
            return turn(xs[line], ys[line], xs[end], ys[end], x, y);
        }
    }

    /** Names in the order in which they were told. */
    private static final class Names {
        private final int[] owners;
        private final int[] numbers;
        private final int[] froms;
        private final int[] tos;
        private int count;

        Names() {
            owners = new int[MAX_NAMES];
            numbers = new int[MAX_NAMES];
            froms = new int[MAX_NAMES];
            tos = new int[MAX_NAMES];
        }

        boolean isFull() {
            return count >= MAX_NAMES;
        }

        void add(int place, int number, int from, int to) {
            owners[count] = place;
            numbers[count] = number;
            froms[count] = from;
            tos[count] = to;
            count++;
        }

        int find(int place, int day) {
            for (int i = count - 1; i >= 0; i--) {
                if (owners[i] == place && froms[i] <= day && day <= tos[i]) {
                    return numbers[i];
                }
            }
            return NONE;
        }
    }

    /** Marks of an old map, and what three of them tell of the points between them. */
    private static final class OldMap {
        private final int[] mapXs;
        private final int[] mapYs;
        private final int[] xs;
        private final int[] ys;
        private int count;

        OldMap() {
            mapXs = new int[MAX_MARKS];
            mapYs = new int[MAX_MARKS];
            xs = new int[MAX_MARKS];
            ys = new int[MAX_MARKS];
        }

        boolean isFull() {
            return count >= MAX_MARKS;
        }

        int add(int mapX, int mapY, int x, int y) {
            mapXs[count] = mapX;
            mapYs[count] = mapY;
            xs[count] = x;
            ys[count] = y;
            count++;
            return count - 1;
        }

        int find(int mapX, int mapY, int axis) {
            for (int i = 0; i < count; i++) {
                for (int j = i + 1; j < count; j++) {
                    for (int k = j + 1; k < count; k++) {
                        if (haveBetween(i, j, k, mapX, mapY)) {
                            int[] values = axis == AXIS_X ? xs : ys;
                            return valueBetween(i, j, k, mapX, mapY, values);
                        }
                    }
                }
            }
            throw new IllegalStateException("no three marks place the point");
        }

        private boolean haveBetween(int i, int j, int k, int x, int y) {
            long whole = turn(mapXs[i], mapYs[i], mapXs[j], mapYs[j], mapXs[k], mapYs[k]);
            long first = share(j, k, x, y);
            long second = share(k, i, x, y);
            long third = share(i, j, x, y);
            return (whole > 0 && first >= 0 && second >= 0 && third >= 0)
                    || (whole < 0 && first <= 0 && second <= 0 && third <= 0);
        }

        private int valueBetween(int i, int j, int k, int x, int y, int[] values) {
            long first = share(j, k, x, y);
            long second = share(k, i, x, y);
            long third = share(i, j, x, y);
            return roundedQuotient(first * values[i] + second * values[j] + third * values[k],
                    first + second + third);
        }

        /** The third mark's share of a point is the triangle that the point has with the other two. */
        private long share(int one, int two, int x, int y) {
            return turn(mapXs[one], mapYs[one], mapXs[two], mapYs[two], x, y);
        }

        /** part / whole to the nearest whole number, halves up. */
        private static int roundedQuotient(long part, long whole) {
            if (whole == 0) {
                return 0;
            }
            // A half more, rounded down, lifts halves up, but over a divisor above 0 alone.
            long dividend = whole > 0 ? part : -part;
            long divisor = Math.abs(whole);
            return (int) Math.floorDiv(2 * dividend + divisor, 2 * divisor);
        }
    }
}
