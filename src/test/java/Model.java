import java.math.BigInteger;
import java.util.ArrayList;
import java.util.List;
import java.util.NoSuchElementException;

/** The document said once more, by other ways of counting than the program's (fractions, turns round a point). */
final class Model {
    private static final int NONE = -1;

    private record Point(long x, long y) {
        Point minus(Point p) {
            return new Point(x - p.x, y - p.y);
        }

        long cross(Point p) {
            return x * p.y - y * p.x;
        }

        long dot(Point p) {
            return x * p.x + y * p.y;
        }
    }

    private record Name(int place, int n, int from, int to) {
    }

    private record Mark(Point map, Point real) {
    }

    private static final class Border {
        int place;
        int from;
        int to;
        boolean closed;
        Border unsure;
        final List<Point> corners = new ArrayList<>();

        Point at(int i) {
            return corners.get(i % corners.size());
        }
    }

    private final List<Integer> parents = new ArrayList<>();
    private final List<Border> borders = new ArrayList<>();
    private final List<Border> inOrderOfClosing = new ArrayList<>();
    private final List<Name> names = new ArrayList<>();
    private final List<Mark> marks = new ArrayList<>();

    private static void known(boolean is) {
        if (!is) {
            throw new NoSuchElementException();
        }
    }

    private static void right(boolean is) {
        if (!is) {
            throw new IllegalArgumentException();
        }
    }

    private static void free(boolean is) {
        if (!is) {
            throw new IllegalStateException();
        }
    }

    private void knownPlace(int place) {
        known(place >= 0 && place < parents.size());
    }

    private void knownShape(int shape) {
        known(shape >= 0 && shape < borders.size());
    }

    private static boolean isDay(int day) {
        return day >= 0 && day <= 100000;
    }

    private static boolean isPoint(int x, int y) {
        return Math.abs((long) x) <= 10000 && Math.abs((long) y) <= 10000;
    }

    int place(int parent) {
        known(parent >= -1 && parent < parents.size());
        free(parents.size() < 16);
        parents.add(parent);
        return parents.size() - 1;
    }

    int shape(int place, int from, int to) {
        knownPlace(place);
        right(isDay(from) && isDay(to) && from <= to);
        free(borders.size() < 32);
        Border b = new Border();
        b.place = place;
        b.from = from;
        b.to = to;
        borders.add(b);
        return borders.size() - 1;
    }

    int corner(int shape, int x, int y) {
        knownShape(shape);
        right(isPoint(x, y));
        Border b = borders.get(shape);
        free(!b.closed && b.corners.size() < 12);
        b.corners.add(new Point(x, y));
        return b.corners.size();
    }

    boolean close(int shape) {
        knownShape(shape);
        Border b = borders.get(shape);
        if (b.closed || !canBeClosed(b)) {
            return false;
        }
        b.closed = true;
        inOrderOfClosing.add(0, b);
        return true;
    }

    private static boolean canBeClosed(Border b) {
        int n = b.corners.size();
        if (n < 3 || b.corners.stream().distinct().count() < n) {
            return false;
        }
        for (int i = 0; i < n; i++) {
            for (int j = 0; j < i; j++) {
                boolean following = i - j == 1 || i - j == n - 1;
                int common = pointsInCommon(b.at(i), b.at(i + 1), b.at(j), b.at(j + 1));
                if (common != (following ? 1 : 0)) {
                    return false;
                }
            }
        }
        return true;
    }

    /** 0, 1 or 2 for more; solves a + t(b - a) = c + u(d - c) with t and u as fractions. */
    private static int pointsInCommon(Point a, Point b, Point c, Point d) {
        Point r = b.minus(a);
        Point s = d.minus(c);
        long under = r.cross(s);
        if (under != 0) {
            long t = c.minus(a).cross(s);
            long u = c.minus(a).cross(r);
            if (under < 0) {
                t = -t;
                u = -u;
                under = -under;
            }
            return t >= 0 && t <= under && u >= 0 && u <= under ? 1 : 0;
        }
        if (c.minus(a).cross(r) != 0) {
            return 0;
        }
        // on one line: measured along r, a is at 0 and b at the square of r
        long from = Math.min(c.minus(a).dot(r), d.minus(a).dot(r));
        long to = Math.max(c.minus(a).dot(r), d.minus(a).dot(r));
        long low = Math.max(0, from);
        long high = Math.min(r.dot(r), to);
        return low > high ? 0 : low == high ? 1 : 2;
    }

    boolean unsure(int shape, int other) {
        knownShape(shape);
        knownShape(other);
        Border a = borders.get(shape);
        Border b = borders.get(other);
        if (shape == other || a.place != b.place || !a.closed || !b.closed) {
            return false;
        }
        for (Border each : borders) {
            if (each.unsure == a || each.unsure == b) {
                each.unsure = null;
            }
        }
        a.unsure = b;
        b.unsure = a;
        return true;
    }

    private Border on(int place, int day) {
        for (Border b : inOrderOfClosing) {
            if (b.place == place && b.from <= day && b.to >= day) {
                return b;
            }
        }
        return null;
    }

    int force(int place, int day) {
        knownPlace(place);
        right(isDay(day));
        return borders.indexOf(on(place, day));
    }

    /** On the border, or the border goes round the point. */
    private static boolean in(Border b, Point p) {
        int turns = 0;
        for (int i = 0; i < b.corners.size(); i++) {
            Point to = b.at(i).minus(p);
            Point next = b.at(i + 1).minus(p);
            long cross = to.cross(next);
            if (cross == 0 && to.dot(next) <= 0) {
                return true;
            }
            if (to.y() <= 0 && next.y() > 0 && cross > 0) {
                turns++;
            }
            if (to.y() > 0 && next.y() <= 0 && cross < 0) {
                turns--;
            }
        }
        return turns != 0;
    }

    private static int kth(List<Integer> found, int k) {
        return k < found.size() ? found.get(k) : NONE;
    }

    int inside(int x, int y, int day, int k) {
        known(k >= 0);
        right(isPoint(x, y) && isDay(day));
        List<Integer> found = new ArrayList<>();
        for (int place = 0; place < parents.size(); place++) {
            Border b = on(place, day);
            if (b != null && in(b, new Point(x, y))) {
                found.add(place);
            }
        }
        return kth(found, k);
    }

    int threeWay(int place, int x, int y, int day) {
        knownPlace(place);
        right(isPoint(x, y) && isDay(day));
        Border b = on(place, day);
        if (b == null) {
            return NONE;
        }
        boolean first = in(b, new Point(x, y));
        boolean second = b.unsure == null ? first : in(b.unsure, new Point(x, y));
        return first && second ? 2 : first || second ? 1 : 0;
    }

    /** The triangles from the first corner on, added up. */
    int area(int place, int day) {
        knownPlace(place);
        right(isDay(day));
        Border b = on(place, day);
        if (b == null) {
            return 0;
        }
        long sum = 0;
        for (int i = 1; i + 1 < b.corners.size(); i++) {
            sum += b.at(i).minus(b.at(0)).cross(b.at(i + 1).minus(b.at(0)));
        }
        return Math.toIntExact(Math.abs(sum));
    }

    int misfit(int k, int day) {
        known(k >= 0);
        right(isDay(day));
        List<Integer> found = new ArrayList<>();
        for (int place = 0; place < parents.size(); place++) {
            Border own = on(place, day);
            Border around = on(parents.get(place), day);
            if (own != null && around != null && !own.corners.stream().allMatch(p -> in(around, p))) {
                found.add(place);
            }
        }
        return kth(found, k);
    }

    int distance(int a, int b, int day) {
        knownPlace(a);
        knownPlace(b);
        right(isDay(day));
        Border one = on(a, day);
        Border two = on(b, day);
        if (one == null || two == null) {
            return NONE;
        }
        long least = Long.MAX_VALUE;
        for (Point p : one.corners) {
            for (Point q : two.corners) {
                least = Math.min(least, p.minus(q).dot(p.minus(q)));
            }
        }
        return Math.toIntExact(least);
    }

    void name(int place, int n, int from, int to) {
        knownPlace(place);
        right(isDay(from) && isDay(to) && from <= to && n >= 0);
        free(names.size() < 40);
        names.add(0, new Name(place, n, from, to));
    }

    int nameOn(int place, int day) {
        knownPlace(place);
        right(isDay(day));
        for (Name each : names) {
            if (each.place == place && each.from <= day && each.to >= day) {
                return each.n;
            }
        }
        return NONE;
    }

    int mark(int mapX, int mapY, int x, int y) {
        right(isPoint(mapX, mapY) && isPoint(x, y));
        free(marks.size() < 12);
        marks.add(new Mark(new Point(mapX, mapY), new Point(x, y)));
        return marks.size() - 1;
    }

    int placed(int mapX, int mapY, int axis) {
        known(axis == 0 || axis == 1);
        right(isPoint(mapX, mapY));
        Point p = new Point(mapX, mapY);
        for (int i = 0; i < marks.size(); i++) {
            for (int j = i + 1; j < marks.size(); j++) {
                for (int k = j + 1; k < marks.size(); k++) {
                    Integer found = placedBy(marks.get(i), marks.get(j), marks.get(k), p, axis);
                    if (found != null) {
                        return found;
                    }
                }
            }
        }
        throw new IllegalStateException();
    }

    /** Goes from a some part u of the way to b and some part v of the way to c, both over one divisor. */
    private static Integer placedBy(Mark a, Mark b, Mark c, Point p, int axis) {
        Point ab = b.map.minus(a.map);
        Point ac = c.map.minus(a.map);
        Point ap = p.minus(a.map);
        long sign = Long.signum(ab.cross(ac));
        long under = sign * ab.cross(ac);
        long u = sign * ap.cross(ac);
        long v = sign * ab.cross(ap);
        if (under == 0 || u < 0 || v < 0 || u + v > under) {
            return null;
        }
        Point realAb = b.real.minus(a.real);
        Point realAc = c.real.minus(a.real);
        BigInteger way = BigInteger.valueOf(u).multiply(BigInteger.valueOf(axis == 0 ? realAb.x : realAb.y))
                .add(BigInteger.valueOf(v).multiply(BigInteger.valueOf(axis == 0 ? realAc.x : realAc.y)));
        // down to the whole number below, then one up if half or more is left
        BigInteger divisor = BigInteger.valueOf(under);
        BigInteger rest = way.mod(divisor);
        int whole = way.subtract(rest).divide(divisor).intValueExact() + (int) (axis == 0 ? a.real.x : a.real.y);
        return rest.shiftLeft(1).compareTo(divisor) >= 0 ? whole + 1 : whole;
    }

    int masked(int x, int y, int size, int axis) {
        known(axis == 0 || axis == 1);
        right(isPoint(x, y) && size >= 1 && size <= 10000);
        int value = axis == 0 ? x : y;
        int over = ((value % size) + size) % size;
        return value - over;
    }
}
