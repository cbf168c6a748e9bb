import java.util.Random;

/** Runs of 512 drawn calls each, always the same ones, with every answer held against the model's. */
public final class ModelTest {
    private static final int RUNS = 3000;
    private static final int ENOUGH_WRONG = 20;

    private final Random random;
    private final BorderDays program = new BorderDays();
    private final Model model = new Model();
    private final String run;
    /** Points are drawn from so small a field in most runs that they often meet lines and corners. */
    private final int reach;
    /** The field's middle; not always 0, 0, where a corner that was never set would lie. */
    private final int middle;
    private final int lastDay;
    private int calls = 0;

    private ModelTest(int seed) {
        random = new Random(seed);
        run = "run " + seed;
        reach = new int[] {2, 4, 8, 40, 10000}[random.nextInt(5)];
        middle = reach == 10000 || random.nextBoolean() ? 0 : random.nextInt(100) - 50;
        lastDay = random.nextBoolean() ? 6 : 100000;
    }

    public static void main(String[] args) {
        for (int seed = 0; seed < RUNS && Check.wrongSoFar() < ENOUGH_WRONG; seed++) {
            new ModelTest(seed).go();
        }
        Check.end("ModelTest");
    }

    private void go() {
        if (random.nextInt(4) == 0) {
            fill();
        }
        for (int i = random.nextInt(6); i > 0; i--) {
            place();
        }
        while (callsLeft() > 0 && Check.wrongSoFar() < ENOUGH_WRONG) {
            if (random.nextInt(12) == 0) {
                wholeShape();
            } else {
                oneCall();
            }
        }
    }

    private int callsLeft() {
        return Run.MOST_CALLS - calls;
    }

    /** Drawn calls alone seldom come to the last place, name and mark, and to one more. */
    private void fill() {
        for (int i = 0; i < 17; i++) {
            place();
        }
        for (int i = 0; i < 50; i++) {
            name(aPlace(), aDay());
        }
        for (int i = 0; i < 14; i++) {
            mark(aValue(), aValue(), aValue(), aValue());
        }
    }

    private int wrongly() {
        int[] values = {-1, -2, -10001, 10001, 100001, 2, 16, 32, Integer.MIN_VALUE, Integer.MAX_VALUE};
        return values[random.nextInt(values.length)];
    }

    private int mostly(int value) {
        return random.nextInt(80) == 0 ? wrongly() : value;
    }

    private int aPlace() {
        return mostly(random.nextInt(random.nextInt(10) == 0 ? 17 : 5));
    }

    private int aShape() {
        return mostly(random.nextInt(random.nextInt(3) == 0 ? 33 : 8));
    }

    private int aValue() {
        if (reach == 10000 && random.nextInt(3) == 0) {
            return mostly(random.nextBoolean() ? 10000 : -10000);
        }
        return mostly(middle + random.nextInt(2 * reach + 1) - reach);
    }

    private int aDay() {
        return mostly(random.nextInt(lastDay + 1));
    }

    private int aLaterDay(int day) {
        return random.nextInt(3) == 0 ? aDay() : (int) Math.min(lastDay, (long) day + random.nextInt(lastDay));
    }

    private int rank() {
        return mostly(random.nextInt(random.nextInt(4) == 0 ? 5 : 2));
    }

    /** Answers what was due. */
    private String due(String call, Check.Call want, Check.Call got) {
        calls++;
        String due = Check.told(want);
        Check.due(run + ", call " + calls + ": " + call, due, got);
        return due;
    }

    private void place() {
        int parent = random.nextInt(3) == 0 ? -1 : aPlace();
        due("place(" + parent + ")", () -> model.place(parent), () -> program.place(parent));
    }

    private void shape(int place) {
        int from = aDay();
        int to = aLaterDay(from);
        String call = "shape(" + place + ", " + from + ", " + to + ")";
        due(call, () -> model.shape(place, from, to), () -> program.shape(place, from, to));
    }

    private void corner(int shape, int x, int y) {
        String call = "corner(" + shape + ", " + x + ", " + y + ")";
        due(call, () -> model.corner(shape, x, y), () -> program.corner(shape, x, y));
    }

    private void close(int shape) {
        due("close(" + shape + ")", () -> model.close(shape), () -> program.close(shape));
    }

    /** A ring of corners by their angle, which mostly can be closed, or of any corners, which mostly cannot. */
    private void wholeShape() {
        int place = aPlace();
        String call = "shape(" + place + ", 0, " + lastDay + ")";
        String made = due(call, () -> model.shape(place, 0, lastDay), () -> program.shape(place, 0, lastDay));
        if (made.startsWith("throws")) {
            return;
        }
        int number = Integer.parseInt(made);
        int count = 3 + random.nextInt(random.nextInt(3) == 0 ? 10 : 3);
        boolean ring = random.nextInt(4) != 0;
        double start = random.nextDouble() * 7;
        double step = (random.nextBoolean() ? 2 : -2) * Math.PI / count;
        for (int i = 0; i < count && callsLeft() > 0; i++) {
            double far = reach * (0.4 + 0.6 * random.nextDouble());
            int x = ring ? middle + (int) Math.round(far * Math.cos(start + i * step)) : aValue();
            int y = ring ? middle + (int) Math.round(far * Math.sin(start + i * step)) : aValue();
            corner(number, x, y);
        }
        if (callsLeft() > 0) {
            close(number);
        }
    }

    private void oneCall() {
        switch (random.nextInt(18)) {
            case 0 -> place();
            case 1 -> shape(aPlace());
            case 2 -> corner(aShape(), aValue(), aValue());
            case 3 -> close(aShape());
            case 4 -> unsure(aShape(), aShape());
            case 5 -> force(aPlace(), aDay());
            case 6, 7 -> inside(aValue(), aValue(), aDay(), rank());
            case 8, 9 -> threeWay(aPlace(), aValue(), aValue(), aDay());
            case 10 -> area(aPlace(), aDay());
            case 11 -> misfit(rank(), aDay());
            case 12 -> distance(aPlace(), aPlace(), aDay());
            case 13 -> name(aPlace(), aDay());
            case 14 -> nameOn(aPlace(), aDay());
            case 15 -> mark(aValue(), aValue(), aValue(), aValue());
            case 16 -> placed(aValue(), aValue(), mostly(random.nextInt(2)));
            default -> masked(aValue(), aValue(), mostly(1 + random.nextInt(Math.min(10000, reach * 2))));
        }
    }

    private void unsure(int a, int b) {
        due("unsure(" + a + ", " + b + ")", () -> model.unsure(a, b), () -> program.unsure(a, b));
    }

    private void force(int place, int day) {
        due("force(" + place + ", " + day + ")", () -> model.force(place, day), () -> program.force(place, day));
    }

    private void inside(int x, int y, int day, int k) {
        String call = "inside(" + x + ", " + y + ", " + day + ", " + k + ")";
        due(call, () -> model.inside(x, y, day, k), () -> program.inside(x, y, day, k));
    }

    private void threeWay(int place, int x, int y, int day) {
        String call = "threeWay(" + place + ", " + x + ", " + y + ", " + day + ")";
        due(call, () -> model.threeWay(place, x, y, day), () -> program.threeWay(place, x, y, day));
    }

    private void area(int place, int day) {
        due("area(" + place + ", " + day + ")", () -> model.area(place, day), () -> program.area(place, day));
    }

    private void misfit(int k, int day) {
        due("misfit(" + k + ", " + day + ")", () -> model.misfit(k, day), () -> program.misfit(k, day));
    }

    private void distance(int a, int b, int day) {
        String call = "distance(" + a + ", " + b + ", " + day + ")";
        due(call, () -> model.distance(a, b, day), () -> program.distance(a, b, day));
    }

    private void name(int place, int from) {
        int n = random.nextInt(9) == 0 ? wrongly() : random.nextInt(100);
        int to = aLaterDay(from);
        String call = "name(" + place + ", " + n + ", " + from + ", " + to + ")";
        due(call, () -> told(() -> model.name(place, n, from, to)), () -> told(() -> program.name(place, n, from, to)));
    }

    private static Object told(Check.Act act) {
        act.run();
        return "done";
    }

    private void nameOn(int place, int day) {
        due("nameOn(" + place + ", " + day + ")", () -> model.nameOn(place, day), () -> program.nameOn(place, day));
    }

    private void mark(int mapX, int mapY, int x, int y) {
        String call = "mark(" + mapX + ", " + mapY + ", " + x + ", " + y + ")";
        due(call, () -> model.mark(mapX, mapY, x, y), () -> program.mark(mapX, mapY, x, y));
    }

    private void placed(int mapX, int mapY, int axis) {
        String call = "placed(" + mapX + ", " + mapY + ", " + axis + ")";
        due(call, () -> model.placed(mapX, mapY, axis), () -> program.placed(mapX, mapY, axis));
    }

    private void masked(int x, int y, int size) {
        int axis = mostly(random.nextInt(2));
        String call = "masked(" + x + ", " + y + ", " + size + ", " + axis + ")";
        due(call, () -> model.masked(x, y, size, axis), () -> program.masked(x, y, size, axis));
    }
}
