import static java.lang.Integer.MAX_VALUE;
import static java.lang.Integer.MIN_VALUE;

/** The promises 1 to 17 of the document: ordinary inputs, the edges that it names, wrong inputs. */
public final class PromisesTest {
    private static final int NONE = BorderDays.NONE;
    private static final String NO_SUCH = Check.NO_SUCH;
    private static final String ARGUMENT = Check.ARGUMENT;
    private static final String STATE = Check.STATE;

    private static final int[] NO_POINTS = {-10001, 10001, MIN_VALUE, MAX_VALUE};
    private static final int[] NO_DAYS = {-1, 100001, MIN_VALUE, MAX_VALUE};
    private static final int[] NO_AXES = {-1, 2, MIN_VALUE, MAX_VALUE};

    private static int promise = 0;

    public static void main(String[] args) {
        newObject();
        place();
        shape();
        corner();
        closeOrdinary();
        closeCrossings();
        unsure();
        force();
        inside();
        insideBorders();
        threeWay();
        area();
        misfit();
        distance();
        name();
        nameOn();
        mark();
        placed();
        placedHalves();
        placedEdges();
        masked();
        Check.end("PromisesTest");
    }

    private static void due(String what, Object want, Check.Call call) {
        Check.due("promise " + promise + ": " + what, want, call);
    }

    private static BorderDays withPlaces(int places) {
        BorderDays b = new BorderDays();
        for (int i = 0; i < places; i++) {
            b.place(NONE);
        }
        return b;
    }

    /** A new shape with these corners (x, y, x, y ..), still open. */
    private static int open(BorderDays b, int place, int from, int to, int... corners) {
        int s = b.shape(place, from, to);
        for (int i = 0; i < corners.length; i += 2) {
            b.corner(s, corners[i], corners[i + 1]);
        }
        return s;
    }

    private static int closed(BorderDays b, int place, int from, int to, int... corners) {
        int s = open(b, place, from, to, corners);
        due("closing a shape for a test", true, () -> b.close(s));
        return s;
    }

    private static int square(BorderDays b, int place, int from, int to, int x, int y, int side) {
        return closed(b, place, from, to, x, y, x + side, y, x + side, y + side, x, y + side);
    }

    private static void newObject() {
        promise = 1;
        BorderDays b = new BorderDays();
        due("force(0, 0)", NO_SUCH, () -> b.force(0, 0));
        due("place(0)", NO_SUCH, () -> b.place(0));
        due("shape(0, 0, 0)", NO_SUCH, () -> b.shape(0, 0, 0));
        due("corner(0, 0, 0)", NO_SUCH, () -> b.corner(0, 0, 0));
        due("close(0)", NO_SUCH, () -> b.close(0));
        due("nameOn(0, 0)", NO_SUCH, () -> b.nameOn(0, 0));
        due("inside(0, 0, 0, 0)", NONE, () -> b.inside(0, 0, 0, 0));
        due("misfit(0, 0)", NONE, () -> b.misfit(0, 0));
        due("placed(0, 0, 0)", STATE, () -> b.placed(0, 0, 0));
        due("place(NONE)", 0, () -> b.place(NONE));
        BorderDays fresh = new BorderDays();
        due("another object has no places", NO_SUCH, () -> fresh.force(0, 0));
        due("another object's first place", 0, () -> fresh.place(NONE));
    }

    private static void place() {
        promise = 2;
        BorderDays b = new BorderDays();
        for (int wrong : new int[] {0, 1, -2, 16, MIN_VALUE, MAX_VALUE}) {
            due("place(" + wrong + ") of none", NO_SUCH, () -> b.place(wrong));
        }
        for (int i = 0; i < 16; i++) {
            int n = i;
            due("place itself as parent " + n, NO_SUCH, () -> b.place(n));
            due("place " + n, n, () -> b.place(n % 3 == 0 ? NONE : n - 1));
        }
        due("place(NONE), the seventeenth", STATE, () -> b.place(NONE));
        due("place(15), the seventeenth", STATE, () -> b.place(15));
        due("place(16) goes before full", NO_SUCH, () -> b.place(16));
        due("place(-2) goes before full", NO_SUCH, () -> b.place(-2));
        due("force(15, 0)", NONE, () -> b.force(15, 0));
        due("force(16, 0)", NO_SUCH, () -> b.force(16, 0));
    }

    private static void shape() {
        promise = 3;
        BorderDays b = withPlaces(2);
        for (int wrong : new int[] {-1, 2, 16, MIN_VALUE, MAX_VALUE}) {
            due("shape of no place", NO_SUCH, () -> b.shape(wrong, 0, 0));
            due("shape of no place and no day", NO_SUCH, () -> b.shape(wrong, 5, -1));
        }
        for (int wrong : NO_DAYS) {
            due("shape from no day", ARGUMENT, () -> b.shape(0, wrong, 100000));
            due("shape to no day", ARGUMENT, () -> b.shape(0, 0, wrong));
        }
        due("shape(0, 5, 4)", ARGUMENT, () -> b.shape(0, 5, 4));
        due("shape(0, 100000, 0)", ARGUMENT, () -> b.shape(0, 100000, 0));
        due("a refused shape is none", NO_SUCH, () -> b.corner(0, 0, 0));
        for (int i = 0; i < 32; i++) {
            int n = i;
            due("shape " + n, n, () -> b.shape(n % 2, n == 0 ? 0 : 100000 - n, 100000 - n));
            due("it has no corners", 1, () -> b.corner(n, 0, 0));
        }
        due("the 33rd shape", STATE, () -> b.shape(0, 0, 0));
        due("no place goes before full", NO_SUCH, () -> b.shape(2, 0, 0));
        due("no day goes before full", ARGUMENT, () -> b.shape(0, 0, 100001));
        due("from above to goes before full", ARGUMENT, () -> b.shape(0, 1, 0));
        due("corner(32, 0, 0)", NO_SUCH, () -> b.corner(32, 0, 0));
    }

    private static void corner() {
        promise = 4;
        BorderDays b = withPlaces(1);
        int s = b.shape(0, 0, 0);
        for (int wrong : new int[] {-1, 1, 32, MIN_VALUE, MAX_VALUE}) {
            due("corner of no shape", NO_SUCH, () -> b.corner(wrong, 0, 0));
            due("corner of no shape and no point", NO_SUCH, () -> b.corner(wrong, 10001, 0));
        }
        for (int wrong : NO_POINTS) {
            due("corner at no x", ARGUMENT, () -> b.corner(s, wrong, 0));
            due("corner at no y", ARGUMENT, () -> b.corner(s, 0, wrong));
        }
        int[] edge = {-10000, -10000, 10000, -10000, 10000, 10000, -10000, 10000};
        for (int i = 0; i < 12; i++) {
            int at = i;
            due("corner " + at, at + 1, () -> b.corner(s, edge[2 * at % 8], edge[(2 * at + 1) % 8]));
        }
        due("the 13th corner", STATE, () -> b.corner(s, 0, 0));
        due("no point goes before full", ARGUMENT, () -> b.corner(s, 0, 10001));
        int t = closed(b, 0, 0, 0, 0, 0, 4, 0, 0, 4);
        due("a corner of a closed shape", STATE, () -> b.corner(t, 9, 9));
        due("no point goes before closed", ARGUMENT, () -> b.corner(t, -10001, 9));
        due("a refused corner changes nothing", 16, () -> b.area(0, 0));
        int u = open(b, 0, 0, 0, 0, 0, 1, 1);
        due("a second corner at one point", 3, () -> b.corner(u, 0, 0));
    }

    private static void closeOrdinary() {
        promise = 5;
        BorderDays b = withPlaces(1);
        for (int wrong : new int[] {-1, 0, 32, MIN_VALUE, MAX_VALUE}) {
            due("close of no shape", NO_SUCH, () -> b.close(wrong));
        }
        int s = b.shape(0, 0, 9);
        due("without corners", false, () -> b.close(s));
        b.corner(s, 0, 0);
        due("with one corner", false, () -> b.close(s));
        b.corner(s, 10, 0);
        due("with two corners", false, () -> b.close(s));
        due("a shape that was not closed grows on", 3, () -> b.corner(s, 0, 10));
        due("with three corners", true, () -> b.close(s));
        due("closed it cannot be closed", false, () -> b.close(s));
        due("closed it stays in force", s, () -> b.force(0, 9));
        int full = open(b, 0, 0, 9, 0, 0, 2, 0, 2, 1, 4, 1, 4, 0, 6, 0, 6, 3, 4, 3, 4, 2, 2, 2, 2, 3, 0, 3);
        due("with twelve corners", true, () -> b.close(full));
        int whole = open(b, 0, 0, 9, -10000, -10000, 10000, -10000, 10000, 10000, -10000, 10000);
        due("with the farthest corners", true, () -> b.close(whole));
        int around = open(b, 0, 0, 9, 0, 0, 0, 5, 5, 5, 5, 0);
        due("the other way round", true, () -> b.close(around));
    }

    private static void dueClosing(boolean want, int... corners) {
        int count = corners.length / 2;
        // Neither the corner that is the first nor the way round may change the answer.
        for (int shift = 0; shift < count; shift++) {
            for (int step = -1; step <= 1; step += 2) {
                int[] turned = new int[corners.length];
                for (int i = 0; i < count; i++) {
                    int at = Math.floorMod(shift + step * i, count);
                    turned[2 * i] = corners[2 * at];
                    turned[2 * i + 1] = corners[2 * at + 1];
                }
                BorderDays b = withPlaces(1);
                int s = open(b, 0, 0, 9, turned);
                due("close of " + java.util.Arrays.toString(turned), want, () -> b.close(s));
                due("in force after that", want ? s : NONE, () -> b.force(0, 5));
                due("a further corner", want || count == 12 ? STATE : count + 1, () -> b.corner(s, 77, 78));
            }
        }
    }

    private static void closeCrossings() {
        promise = 5;
        dueClosing(false, 0, 0, 4, 4, 4, 0, 0, 4);
        dueClosing(false, 0, 0, 10, 0, 10, 10, 5, -1, 0, 10);
        // a line of three points, two points the same
        dueClosing(false, 0, 0, 1, 1, 2, 2);
        dueClosing(false, 0, 0, 0, 5, 0, 2);
        dueClosing(false, 0, 0, 4, 0, 0, 0);
        dueClosing(false, 0, 0, 4, 0, 4, 4, 4, 0);
        dueClosing(false, 0, 0, 0, 0, 4, 0, 4, 4);
        dueClosing(false, 0, 0, 4, 2, 8, 0, 8, 8, 4, 2, 0, 8);
        // a line that goes back on the one before it
        dueClosing(false, 0, 0, 6, 0, 3, 0, 3, 5);
        dueClosing(false, 0, 0, 3, 3, 6, 6, 4, 4, 9, 0);
        // a straight corner is one point in common
        dueClosing(true, 0, 0, 2, 0, 4, 0, 4, 4);
        dueClosing(true, 0, 0, 2, 2, 4, 4, 0, 4);
        // a corner on a line far from it, and one just off it
        dueClosing(false, 0, 0, 10, 0, 10, 10, 5, 0, 0, 10);
        dueClosing(true, 0, 0, 10, 0, 10, 10, 5, 1, 0, 10);
        // lines on one line: apart, with an end in common, one over the other
        dueClosing(true, 0, 0, 2, 0, 3, 1, 4, 0, 6, 0, 3, 5);
        dueClosing(false, 0, 0, 4, 0, 4, 4, 2, 4, 2, 0, 1, 0, 1, 4, 0, 4);
        dueClosing(false, 0, 0, 6, 0, 6, 3, 5, 0, 1, 0, 0, 3);
        // a corner on the line through another one, but behind its end
        dueClosing(true, 0, 0, 4, 0, 4, 4, 6, 4, 6, 0, 8, 0, 8, 8, 0, 8);
        // lines that cross as near to a corner as can be
        dueClosing(false, 0, 0, 1, 0, 0, 1, 1, 1);
        dueClosing(false, 0, 0, 5, 1, 5, 0, 4, 1);
        dueClosing(false, 0, 0, 5, 1, 4, 1, 5, 0);
        dueClosing(false, -10000, -10000, 10000, 10000, 10000, -10000, -10000, 10000);
        dueClosing(true, -10000, -10000, 10000, 10000, 9999, 10000);
        dueClosing(false, 0, 0, 2, 0, 2, 1, 4, 1, 4, 0, 6, 0, 6, 3, 4, 3, 4, 2, 2, 2, 2, 3, 3, 0);
    }

    private static void unsure() {
        promise = 6;
        BorderDays b = withPlaces(2);
        int small = square(b, 0, 0, 9, 0, 0, 2);
        int middle = square(b, 0, 0, 9, 0, 0, 4);
        int large = square(b, 0, 0, 9, 0, 0, 6);
        int foreign = square(b, 1, 0, 9, 0, 0, 6);
        int stillOpen = open(b, 0, 0, 9, 0, 0, 5, 0, 0, 5);
        for (int wrong : new int[] {-1, 5, 32, MIN_VALUE, MAX_VALUE}) {
            due("no first shape", NO_SUCH, () -> b.unsure(wrong, small));
            due("no second shape", NO_SUCH, () -> b.unsure(small, wrong));
            due("neither shape", NO_SUCH, () -> b.unsure(wrong, wrong));
        }
        due("with itself", false, () -> b.unsure(large, large));
        due("of another place", false, () -> b.unsure(large, foreign));
        due("of another place, the other way", false, () -> b.unsure(foreign, large));
        due("with an open one", false, () -> b.unsure(large, stillOpen));
        due("an open one with a closed one", false, () -> b.unsure(stillOpen, large));
        due("an open one with itself", false, () -> b.unsure(stillOpen, stillOpen));
        due("none was made unsure", 2, () -> b.threeWay(0, 5, 5, 0));
        due("large and middle", true, () -> b.unsure(large, middle));
        due("in large alone", 1, () -> b.threeWay(0, 5, 5, 0));
        due("in large and middle", 2, () -> b.threeWay(0, 3, 3, 0));
        due("the same again", true, () -> b.unsure(middle, large));
        due("it is as it was", 1, () -> b.threeWay(0, 5, 5, 0));
        due("what cannot be leaves it", false, () -> b.unsure(large, foreign));
        due("what cannot be leaves it", 1, () -> b.threeWay(0, 5, 5, 0));
        due("small in place of middle", true, () -> b.unsure(small, large));
        due("in large alone now", 1, () -> b.threeWay(0, 3, 3, 0));
        due("middle in place of large", true, () -> b.unsure(middle, small));
        due("large has none left", 2, () -> b.threeWay(0, 5, 5, 0));
        unsureBothLose();
    }

    private static void unsureBothLose() {
        BorderDays b = withPlaces(1);
        int first = square(b, 0, 0, 0, 0, 0, 2);
        int second = square(b, 0, 1, 1, 0, 0, 4);
        int third = square(b, 0, 2, 2, 0, 0, 6);
        int fourth = square(b, 0, 3, 3, 0, 0, 8);
        due("first and second", true, () -> b.unsure(first, second));
        due("third and fourth", true, () -> b.unsure(third, fourth));
        due("second and third", true, () -> b.unsure(second, third));
        due("the first has none left", 0, () -> b.threeWay(0, 3, 3, 0));
        due("the fourth has none left", 2, () -> b.threeWay(0, 7, 7, 3));
        due("the second has the third", 1, () -> b.threeWay(0, 5, 5, 1));
        due("the third has the second", 1, () -> b.threeWay(0, 5, 5, 2));
    }

    private static void force() {
        promise = 7;
        BorderDays b = withPlaces(2);
        for (int wrong : new int[] {-1, 2, 16, MIN_VALUE, MAX_VALUE}) {
            due("of no place", NO_SUCH, () -> b.force(wrong, 0));
            due("of no place on no day", NO_SUCH, () -> b.force(wrong, -1));
        }
        for (int wrong : NO_DAYS) {
            due("on no day", ARGUMENT, () -> b.force(0, wrong));
        }
        int early = open(b, 0, 0, 10, 0, 0, 1, 0, 0, 1);
        int late = open(b, 0, 10, 100000, 0, 0, 1, 0, 0, 1);
        int day = open(b, 0, 5, 5, 0, 0, 1, 0, 0, 1);
        due("an open one is not in force", NONE, () -> b.force(0, 0));
        b.close(day);
        b.close(late);
        due("before its days", NONE, () -> b.force(0, 4));
        due("on its one day", day, () -> b.force(0, 5));
        due("behind its days", NONE, () -> b.force(0, 6));
        b.close(early);
        due("closed later goes before", early, () -> b.force(0, 5));
        due("closed later, though made first", early, () -> b.force(0, 10));
        due("the day behind", late, () -> b.force(0, 11));
        due("on the first day", early, () -> b.force(0, 0));
        due("on the last day", late, () -> b.force(0, 100000));
        due("closing once more is not later", false, () -> b.close(late));
        due("closing once more is not later", early, () -> b.force(0, 10));
        due("the other place has none", NONE, () -> b.force(1, 5));
        int other = square(b, 1, 0, 100000, 0, 0, 1);
        due("the other place has its own", other, () -> b.force(1, 5));
        due("the first keeps its own", early, () -> b.force(0, 5));
    }

    private static void inside() {
        promise = 8;
        BorderDays b = withPlaces(16);
        for (int wrong : new int[] {-1, MIN_VALUE}) {
            due("k below 0", NO_SUCH, () -> b.inside(0, 0, 0, wrong));
            due("k below 0 goes before no point", NO_SUCH, () -> b.inside(10001, 0, 0, wrong));
            due("k below 0 goes before no day", NO_SUCH, () -> b.inside(0, 0, -1, wrong));
        }
        for (int wrong : NO_POINTS) {
            due("no x", ARGUMENT, () -> b.inside(wrong, 0, 0, 0));
            due("no y", ARGUMENT, () -> b.inside(0, wrong, 0, 0));
        }
        for (int wrong : NO_DAYS) {
            due("no day", ARGUMENT, () -> b.inside(0, 0, wrong, 0));
        }
        due("without shapes", NONE, () -> b.inside(0, 0, 0, 0));
        square(b, 15, 0, 9, 0, 0, 10);
        square(b, 4, 5, 9, 5, 5, 10);
        square(b, 9, 0, 100000, -10000, -10000, 20000);
        due("the first of three", 4, () -> b.inside(7, 7, 9, 0));
        due("the second of three", 9, () -> b.inside(7, 7, 9, 1));
        due("the third of three", 15, () -> b.inside(7, 7, 9, 2));
        due("there is no fourth", NONE, () -> b.inside(7, 7, 9, 3));
        due("k far off", NONE, () -> b.inside(7, 7, 9, MAX_VALUE));
        due("before one's days", 9, () -> b.inside(7, 7, 4, 0));
        due("the farthest point on the last day", 9, () -> b.inside(10000, -10000, 100000, 0));
        due("the farthest point the other way", 9, () -> b.inside(-10000, 10000, 0, 0));
        square(b, 9, 9, 9, 100, 100, 1);
        due("not in the shape that is in force", 15, () -> b.inside(7, 7, 9, 1));
        int wide = square(b, 4, 0, 1, -100, -100, 300);
        int narrow = square(b, 4, 0, 1, 200, 200, 1);
        due("unsure with one another", true, () -> b.unsure(narrow, wide));
        due("what a shape is unsure with does not count", 9, () -> b.inside(7, 7, 1, 0));
    }

    /** Each point of a field against a drawing: '#' in the shape, '.' not; rows from the top. */
    private static void dueField(String[] rows, int... corners) {
        for (int way = 0; way < 2; way++) {
            BorderDays b = withPlaces(1);
            int[] turned = corners.clone();
            for (int i = 0; way == 1 && i < corners.length; i += 2) {
                turned[i] = corners[corners.length - 2 - i];
                turned[i + 1] = corners[corners.length - 1 - i];
            }
            closed(b, 0, 3, 3, turned);
            for (int row = 0; row < rows.length; row++) {
                for (int x = 0; x < rows[row].length(); x++) {
                    int px = x;
                    int py = rows.length - 1 - row;
                    int want = rows[row].charAt(x) == '#' ? 0 : NONE;
                    due("inside(" + px + ", " + py + ", 3, 0)", want, () -> b.inside(px, py, 3, 0));
                }
            }
        }
    }

    private static void insideBorders() {
        promise = 8;
        // the ways through corners, along level lines and into a notch
        dueField(new String[] {
            "........",
            ".#...#..",
            ".##.##..",
            ".#####..",
            ".#####..",
            ".#####..",
            "........"}, 1, 1, 5, 1, 5, 5, 3, 3, 1, 5);
        dueField(new String[] {
            ".......",
            "...#...",
            "..###..",
            ".#####.",
            "..###..",
            "...#...",
            "......."}, 3, 1, 5, 3, 3, 5, 1, 3);
        dueField(new String[] {
            "...........",
            ".###...###.",
            ".###...###.",
            ".#########.",
            ".#########.",
            ".#########.",
            "..........."}, 1, 1, 9, 1, 9, 5, 7, 5, 7, 3, 3, 3, 3, 5, 1, 5);
        dueField(new String[] {
            ".......",
            ".#.....",
            ".##....",
            ".###...",
            ".####..",
            "......."}, 1, 1, 4, 1, 1, 4);
        // a steep border between points: no point near it is on it
        dueField(new String[] {
            ".#....",
            ".#....",
            ".##...",
            ".##...",
            ".###..",
            "......"}, 1, 1, 3, 1, 1, 6);
    }

    private static void threeWay() {
        promise = 9;
        BorderDays b = withPlaces(2);
        for (int wrong : new int[] {-1, 2, 16, MIN_VALUE, MAX_VALUE}) {
            due("of no place", NO_SUCH, () -> b.threeWay(wrong, 0, 0, 0));
            due("of no place, no point, no day", NO_SUCH, () -> b.threeWay(wrong, 10001, 0, -1));
        }
        for (int wrong : NO_POINTS) {
            due("no x", ARGUMENT, () -> b.threeWay(0, wrong, 0, 0));
            due("no y", ARGUMENT, () -> b.threeWay(0, 0, wrong, 0));
        }
        for (int wrong : NO_DAYS) {
            due("no day", ARGUMENT, () -> b.threeWay(0, 0, 0, wrong));
        }
        due("without a shape", NONE, () -> b.threeWay(0, 0, 0, 0));
        int left = square(b, 0, 0, 10, 0, 0, 10);
        due("alone, on its border", 2, () -> b.threeWay(0, 10, 5, 10));
        due("alone, outside", 0, () -> b.threeWay(0, 11, 5, 10));
        due("on another day", NONE, () -> b.threeWay(0, 5, 5, 11));
        int right = square(b, 0, 5, 5, 6, 0, 10);
        due("not unsure", 0, () -> b.threeWay(0, 1, 1, 5));
        due("unsure", true, () -> b.unsure(left, right));
        due("in both, on a border", 2, () -> b.threeWay(0, 6, 5, 5));
        due("in both, on the other's border", 2, () -> b.threeWay(0, 10, 5, 5));
        due("in the one in force alone", 1, () -> b.threeWay(0, 16, 10, 5));
        due("in the other alone", 1, () -> b.threeWay(0, 0, 0, 5));
        due("in neither", 0, () -> b.threeWay(0, 17, 5, 5));
        due("the other's days do not count", 1, () -> b.threeWay(0, 16, 10, 0));
        due("in both on the first one's day", 2, () -> b.threeWay(0, 8, 8, 10));
        due("in neither on the first one's day", 0, () -> b.threeWay(0, 17, 5, 10));
        due("the other place", NONE, () -> b.threeWay(1, 8, 8, 5));
        square(b, 0, 5, 5, 0, 0, 1);
        due("one closed later is sure", 0, () -> b.threeWay(0, 8, 8, 5));
    }

    private static void area() {
        promise = 10;
        BorderDays b = withPlaces(4);
        for (int wrong : new int[] {-1, 4, 16, MIN_VALUE, MAX_VALUE}) {
            due("of no place", NO_SUCH, () -> b.area(wrong, 0));
            due("of no place on no day", NO_SUCH, () -> b.area(wrong, -1));
        }
        for (int wrong : NO_DAYS) {
            due("on no day", ARGUMENT, () -> b.area(0, wrong));
        }
        due("without a shape", 0, () -> b.area(0, 0));
        closed(b, 0, 1, 2, 0, 0, 1, 0, 0, 1);
        due("the least one", 1, () -> b.area(0, 1));
        due("behind its days", 0, () -> b.area(0, 3));
        closed(b, 0, 2, 2, 3, 4, 3, 9, 7, 9, 7, 4);
        due("the other way round", 40, () -> b.area(0, 2));
        square(b, 1, 0, 9, -10000, -10000, 20000);
        due("the largest one", 800000000, () -> b.area(1, 9));
        closed(b, 2, 0, 9, 1, 1, 5, 1, 5, 5, 3, 3, 1, 5);
        due("with a notch", 24, () -> b.area(2, 0));
        closed(b, 3, 0, 9, -10000, 10000, -10000, -10000, 10000, -10000, 10000, 10000, 9999, 10000,
                9999, -9999, -9999, -9999, -9999, 10000);
        due("along three sides of all", 119996, () -> b.area(3, 0));
        closed(b, 3, 7, 7, 10, 10, 12, 10, 12, 11, 14, 11, 14, 10, 16, 10, 16, 13, 14, 13, 14, 12, 12, 12,
                12, 13, 10, 13);
        due("with twelve corners", 28, () -> b.area(3, 7));
    }

    private static void misfit() {
        promise = 11;
        BorderDays b = new BorderDays();
        for (int i = 0; i < 5; i++) {
            b.place(i == 0 ? NONE : i == 4 ? 3 : 0);
        }
        for (int wrong : new int[] {-1, MIN_VALUE}) {
            due("k below 0", NO_SUCH, () -> b.misfit(wrong, 0));
            due("k below 0 goes before no day", NO_SUCH, () -> b.misfit(wrong, -1));
        }
        for (int wrong : NO_DAYS) {
            due("no day", ARGUMENT, () -> b.misfit(0, wrong));
        }
        square(b, 1, 0, 20, 5, 5, 10);
        due("a parent without a shape", NONE, () -> b.misfit(0, 5));
        square(b, 0, 3, 10, 0, 0, 10);
        square(b, 2, 0, 20, 0, 0, 10);
        due("some corners outside", 1, () -> b.misfit(0, 5));
        due("on the border it fits", NONE, () -> b.misfit(1, 5));
        due("on the first day of both", 1, () -> b.misfit(0, 3));
        due("on the day before", NONE, () -> b.misfit(0, 2));
        due("on the last day of both", 1, () -> b.misfit(0, 10));
        due("on the day behind", NONE, () -> b.misfit(0, 11));
        square(b, 4, 0, 20, 500, 500, 3);
        due("without a shape the parent fits all", NONE, () -> b.misfit(1, 5));
        square(b, 3, 4, 20, 2, 2, 3);
        due("the first", 1, () -> b.misfit(0, 5));
        due("the second, in its own parent", 4, () -> b.misfit(1, 5));
        due("there is no third", NONE, () -> b.misfit(2, 5));
        due("k far off", NONE, () -> b.misfit(MAX_VALUE, 5));
        closed(b, 2, 6, 6, 1, 1, 9, 1, 5, 11);
        due("the last corner outside", 2, () -> b.misfit(1, 6));
        closed(b, 2, 7, 7, 5, 11, 1, 1, 9, 1);
        due("the first corner outside", 2, () -> b.misfit(1, 7));
        closed(b, 0, 8, 8, 0, 0, 20, 0, 20, 20, 10, 1, 0, 20);
        closed(b, 1, 8, 8, 1, 1, 19, 1, 2, 2);
        due("corners alone count, not the lines", 2, () -> b.misfit(0, 8));
        int small = square(b, 0, 9, 9, 0, 0, 1);
        int large = square(b, 0, 9, 9, 0, 0, 100);
        due("unsure with one another", true, () -> b.unsure(small, large));
        due("what the parent is unsure with does not count", 4, () -> b.misfit(0, 9));
        BorderDays alone = withPlaces(3);
        square(alone, 0, 0, 9, 0, 0, 1);
        square(alone, 2, 0, 9, 50, 50, 1);
        due("without a parent", NONE, () -> alone.misfit(0, 5));
        misfitOfSixteen();
    }

    private static void misfitOfSixteen() {
        BorderDays b = new BorderDays();
        for (int i = 0; i < 16; i++) {
            b.place(i - 1);
        }
        square(b, 14, 0, 9, 10, 20, 10);
        due("without a shape of its own", NONE, () -> b.misfit(0, 5));
        closed(b, 15, 0, 9, 10, 20, 20, 20, 15, 30);
        due("far from 0, 0", NONE, () -> b.misfit(0, 5));
        closed(b, 15, 6, 9, 12, 20, 14, 20, 14, 21, 16, 21, 16, 20, 18, 20, 18, 23, 16, 23, 16, 22, 14, 22,
                14, 23, 12, 23);
        due("with twelve corners", NONE, () -> b.misfit(0, 6));
        closed(b, 15, 7, 7, 12, 22, 12, 12, 18, 28);
        due("the last place, with a y too low", 15, () -> b.misfit(0, 7));
        closed(b, 15, 8, 8, 12, 22, 22, 22, 18, 28);
        due("the last place, with an x too high", 15, () -> b.misfit(0, 8));
        due("there is one alone", NONE, () -> b.misfit(1, 8));
    }

    private static void distance() {
        promise = 12;
        BorderDays b = withPlaces(4);
        for (int wrong : new int[] {-1, 4, 16, MIN_VALUE, MAX_VALUE}) {
            due("from no place", NO_SUCH, () -> b.distance(wrong, 0, 0));
            due("to no place", NO_SUCH, () -> b.distance(0, wrong, 0));
            due("to no place on no day", NO_SUCH, () -> b.distance(0, wrong, -1));
        }
        for (int wrong : NO_DAYS) {
            due("on no day", ARGUMENT, () -> b.distance(0, 1, wrong));
        }
        due("neither has a shape", NONE, () -> b.distance(0, 1, 0));
        due("a place without a shape to itself", NONE, () -> b.distance(0, 0, 0));
        closed(b, 0, 0, 9, 0, 0, 10, 0, 0, 10);
        due("the other has none", NONE, () -> b.distance(0, 1, 0));
        due("the one has none", NONE, () -> b.distance(1, 0, 0));
        due("to itself", 0, () -> b.distance(0, 0, 0));
        closed(b, 1, 5, 9, 13, 4, 30, 40, 14, 50);
        due("first corner to the second", 25, () -> b.distance(0, 1, 5));
        due("and back", 25, () -> b.distance(1, 0, 9));
        due("before one's days", NONE, () -> b.distance(0, 1, 4));
        due("behind both days", NONE, () -> b.distance(0, 1, 10));
        closed(b, 2, 0, 9, 100, 100, 90, 100, -1, 12);
        due("the last corner to the last", 5, () -> b.distance(0, 2, 0));
        closed(b, 2, 7, 7, 0, 5, -20, 5, -20, 6);
        due("a corner on a line is not on a corner", 25, () -> b.distance(2, 0, 7));
        closed(b, 2, 8, 8, 50, 50, 10, 0, 50, 0);
        due("a corner in common", 0, () -> b.distance(2, 0, 8));
        closed(b, 2, 100, 100, -10000, -10000, -9999, -10000, -10000, -9999);
        closed(b, 3, 100, 100, 10000, 10000, 9999, 10000, 10000, 9999);
        due("the farthest", 19999 * 19999 + 20000 * 20000 - 20000 - 19999, () -> b.distance(2, 3, 100));
    }

    private static void name() {
        promise = 13;
        BorderDays b = withPlaces(2);
        for (int wrong : new int[] {-1, 2, 16, MIN_VALUE, MAX_VALUE}) {
            dueName(NO_SUCH, b, wrong, 1, 0, 0);
            dueName(NO_SUCH, b, wrong, -1, 5, -1);
        }
        for (int wrong : NO_DAYS) {
            dueName(ARGUMENT, b, 0, 1, wrong, 100000);
            dueName(ARGUMENT, b, 0, 1, 0, wrong);
        }
        dueName(ARGUMENT, b, 0, 1, 5, 4);
        dueName(ARGUMENT, b, 0, -1, 4, 5);
        dueName(ARGUMENT, b, 0, MIN_VALUE, 4, 5);
        due("a refused name is none", NONE, () -> b.nameOn(0, 4));
        for (int i = 0; i < 40; i++) {
            int n = i;
            dueName("done", b, n % 2, n == 0 ? MAX_VALUE : n - 1, n * 10, n * 10 + n % 3);
            due("name " + n, n == 0 ? MAX_VALUE : n - 1, () -> b.nameOn(n % 2, n * 10));
        }
        dueName(STATE, b, 0, 1, 0, 100000);
        dueName(NO_SUCH, b, 2, 1, 0, 0);
        dueName(ARGUMENT, b, 0, 1, 1, 0);
        dueName(ARGUMENT, b, 0, -1, 0, 0);
        dueName(ARGUMENT, b, 0, 1, 0, 100001);
        due("the 41st is none", NONE, () -> b.nameOn(0, 50000));
        due("the first is still there", MAX_VALUE, () -> b.nameOn(0, 0));
        due("the last is there", 38, () -> b.nameOn(1, 390));
    }

    private static void dueName(Object want, BorderDays b, int place, int n, int from, int to) {
        String call = "promise 13: name(" + place + ", " + n + ", " + from + ", " + to + ")";
        Check.dueAct(call, want, () -> b.name(place, n, from, to));
    }

    private static void nameOn() {
        promise = 14;
        BorderDays b = withPlaces(2);
        for (int wrong : new int[] {-1, 2, 16, MIN_VALUE, MAX_VALUE}) {
            due("of no place", NO_SUCH, () -> b.nameOn(wrong, 0));
            due("of no place on no day", NO_SUCH, () -> b.nameOn(wrong, -1));
        }
        for (int wrong : NO_DAYS) {
            due("on no day", ARGUMENT, () -> b.nameOn(0, wrong));
        }
        due("without a name", NONE, () -> b.nameOn(0, 0));
        b.name(0, 7, 10, 20);
        b.name(0, 5, 0, 10);
        b.name(0, 0, 15, 15);
        b.name(1, 9, 0, 100000);
        due("told later goes before", 5, () -> b.nameOn(0, 10));
        due("the first day", 5, () -> b.nameOn(0, 0));
        due("behind the later one", 7, () -> b.nameOn(0, 11));
        due("before the one day", 7, () -> b.nameOn(0, 14));
        due("the name 0 on its one day", 0, () -> b.nameOn(0, 15));
        due("behind the one day", 7, () -> b.nameOn(0, 16));
        due("the last of its days", 7, () -> b.nameOn(0, 20));
        due("behind its days", NONE, () -> b.nameOn(0, 21));
        due("the other place's, first day", 9, () -> b.nameOn(1, 0));
        due("the other place's, last day", 9, () -> b.nameOn(1, 100000));
    }

    private static void mark() {
        promise = 15;
        BorderDays b = new BorderDays();
        for (int wrong : NO_POINTS) {
            due("no mapX", ARGUMENT, () -> b.mark(wrong, 0, 0, 0));
            due("no mapY", ARGUMENT, () -> b.mark(0, wrong, 0, 0));
            due("no x", ARGUMENT, () -> b.mark(0, 0, wrong, 0));
            due("no y", ARGUMENT, () -> b.mark(0, 0, 0, wrong));
        }
        due("mark 0", 0, () -> b.mark(-10000, -10000, 10000, 10000));
        due("mark 1", 1, () -> b.mark(10000, -10000, -10000, 10000));
        for (int i = 2; i < 11; i++) {
            int n = i;
            due("mark " + n + " at one map's point", n, () -> b.mark(10000, -10000, n, n));
        }
        due("not placed by a line", STATE, () -> b.placed(0, 0, 0));
        due("mark 11", 11, () -> b.mark(-10000, 10000, 10000, -10000));
        due("placed by the last mark", 10000, () -> b.placed(-10000, 9999, 0));
        due("placed by the last mark", -9999, () -> b.placed(-10000, 9999, 1));
        due("the 13th mark", STATE, () -> b.mark(0, 0, 0, 0));
        for (int wrong : NO_POINTS) {
            due("no mapX goes before full", ARGUMENT, () -> b.mark(wrong, 0, 0, 0));
            due("no y goes before full", ARGUMENT, () -> b.mark(0, 0, 0, wrong));
        }
        due("a refused mark changes nothing", STATE, () -> b.placed(1, 0, 1));
    }

    private static void duePlaced(BorderDays b, int mapX, int mapY, Object x, Object y) {
        due("placed(" + mapX + ", " + mapY + ", 0)", x, () -> b.placed(mapX, mapY, 0));
        due("placed(" + mapX + ", " + mapY + ", 1)", y, () -> b.placed(mapX, mapY, 1));
    }

    private static void placed() {
        promise = 16;
        BorderDays b = new BorderDays();
        for (int wrong : NO_AXES) {
            due("no axis", NO_SUCH, () -> b.placed(0, 0, wrong));
            due("no axis and no point", NO_SUCH, () -> b.placed(10001, 0, wrong));
        }
        for (int wrong : NO_POINTS) {
            due("no mapX", ARGUMENT, () -> b.placed(wrong, 0, 0));
            due("no mapY", ARGUMENT, () -> b.placed(0, wrong, 1));
        }
        duePlaced(b, 0, 0, STATE, STATE);
        b.mark(0, 0, 100, 200);
        b.mark(10, 0, 300, 200);
        duePlaced(b, 0, 0, STATE, STATE);
        b.mark(5, 0, 0, 0);
        duePlaced(b, 5, 0, STATE, STATE);
        b.mark(0, 10, 100, -200);
        duePlaced(b, 0, 0, 100, 200);
        duePlaced(b, 10, 0, 300, 200);
        duePlaced(b, 0, 10, 100, -200);
        duePlaced(b, 2, 3, 140, 80);
        duePlaced(b, 5, 5, 200, 0);
        duePlaced(b, 5, 0, 200, 200);
        duePlaced(b, 6, 5, STATE, STATE);
        duePlaced(b, -1, 5, STATE, STATE);
        duePlaced(b, 5, -1, STATE, STATE);
        // 0, 1, 3 go before 0, 1, 4, and these before 0, 2, 3
        b.mark(0, 20, 900, 900);
        duePlaced(b, 2, 3, 140, 80);
        duePlaced(b, 0, 15, 700, 725);
        duePlaced(b, 5, 6, 440, 410);
        for (int wrong : NO_POINTS) {
            due("no point goes before what is placed", ARGUMENT, () -> b.placed(0, wrong, 0));
        }
    }

    private static void placedHalves() {
        promise = 16;
        BorderDays b = new BorderDays();
        b.mark(0, 0, 0, 0);
        b.mark(4, 0, 2, -2);
        b.mark(0, 4, 0, 0);
        duePlaced(b, 1, 0, 1, 0);
        duePlaced(b, 2, 0, 1, -1);
        duePlaced(b, 3, 0, 2, -1);
        duePlaced(b, 3, 1, 2, -1);
        BorderDays round = new BorderDays();
        round.mark(0, 0, 0, 0);
        round.mark(0, 4, 0, 0);
        round.mark(4, 0, 2, -2);
        duePlaced(round, 1, 0, 1, 0);
        duePlaced(round, 2, 0, 1, -1);
        duePlaced(round, 3, 0, 2, -1);
        BorderDays thirds = new BorderDays();
        thirds.mark(0, 3, 4, -4);
        thirds.mark(3, 0, 2, -2);
        thirds.mark(0, 0, 3, -3);
        duePlaced(thirds, 1, 0, 3, -3);
        duePlaced(thirds, 2, 0, 2, -2);
        duePlaced(thirds, 1, 2, 3, -3);
        duePlaced(thirds, 0, 2, 4, -4);
    }

    private static void placedEdges() {
        promise = 16;
        BorderDays b = new BorderDays();
        b.mark(-10000, -10000, -10000, 10000);
        b.mark(10000, -10000, 10000, 10000);
        b.mark(-10000, 10000, -10000, -10000);
        duePlaced(b, -10000, -10000, -10000, 10000);
        duePlaced(b, 10000, -10000, 10000, 10000);
        duePlaced(b, -10000, 10000, -10000, -10000);
        duePlaced(b, 0, 0, 0, 0);
        duePlaced(b, -1, -9999, -1, 9999);
        duePlaced(b, 1, 0, STATE, STATE);
        duePlaced(b, 10000, 10000, STATE, STATE);
        b.mark(10000, 10000, 10000, 10000);
        duePlaced(b, 10000, 10000, 10000, 10000);
        // 0, 1, 3 go before 1, 2, 3 for a point in both
        duePlaced(b, 5000, 0, 5000, 10000);
        duePlaced(b, 0, 5000, 0, 5000);
        placedInTheLeast(new int[] {0, 0, 1, 0, 0, 1});
        placedInTheLeast(new int[] {0, 0, 0, 1, 1, 0});
        BorderDays one = new BorderDays();
        one.mark(0, 0, 42, -17);
        one.mark(7, 1, 42, -17);
        one.mark(2, 9, 42, -17);
        duePlaced(one, 3, 3, 42, -17);
    }

    /** A triangle of which no point but its three marks is placed. */
    private static void placedInTheLeast(int[] map) {
        BorderDays b = new BorderDays();
        for (int i = 0; i < 6; i += 2) {
            b.mark(map[i], map[i + 1], 7 + map[i], -5 - map[i + 1]);
        }
        for (int x = -2; x <= 2; x++) {
            for (int y = -2; y <= 2; y++) {
                boolean marked = x >= 0 && y >= 0 && x + y <= 1;
                duePlaced(b, x, y, marked ? 7 + x : STATE, marked ? -5 - y : STATE);
            }
        }
    }

    private static void masked() {
        promise = 17;
        BorderDays b = new BorderDays();
        for (int wrong : NO_AXES) {
            due("no axis", NO_SUCH, () -> b.masked(0, 0, 5, wrong));
            due("no axis, no point, no size", NO_SUCH, () -> b.masked(10001, 0, 0, wrong));
        }
        for (int wrong : NO_POINTS) {
            due("no x", ARGUMENT, () -> b.masked(wrong, 0, 5, 1));
            due("no y", ARGUMENT, () -> b.masked(0, wrong, 5, 0));
        }
        for (int wrong : new int[] {0, -1, -5, 10001, MIN_VALUE, MAX_VALUE}) {
            due("no size", ARGUMENT, () -> b.masked(3, 3, wrong, 0));
        }
        dueMasked(b, 0, 0, 5, 0, 0);
        dueMasked(b, 4, 5, 5, 0, 5);
        dueMasked(b, 9, 10, 5, 5, 10);
        dueMasked(b, -1, -5, 5, -5, -5);
        dueMasked(b, -6, -4, 5, -10, -5);
        dueMasked(b, 7, -7, 1, 7, -7);
        dueMasked(b, 9999, 10000, 10000, 0, 10000);
        dueMasked(b, -10000, -1, 10000, -10000, -10000);
        dueMasked(b, -10000, 10000, 9999, -19998, 9999);
        dueMasked(b, -10000, 10000, 3, -10002, 9999);
    }

    private static void dueMasked(BorderDays b, int x, int y, int size, int wantX, int wantY) {
        due("masked(" + x + ", " + y + ", " + size + ", 0)", wantX, () -> b.masked(x, y, size, 0));
        due("masked(" + x + ", " + y + ", " + size + ", 1)", wantY, () -> b.masked(x, y, size, 1));
    }
}
