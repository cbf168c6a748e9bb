import java.util.ArrayList;
import java.util.List;
import java.util.Map;

/**
 * One object and the calls made on it, written as text: "place NONE = 0; force 0 -1 = IAE". What stands behind = is
 * due; without it any answer is, but an exception and false. min and max are the ends of int; # begins a remark.
 *
 * <p>Besides the calls of the face there are: "places n", "open place from to x y x y ..", a new shape with these
 * corners, "ring ..", the same and closed, and "square place from to x y side"; these three answer the shape's number.
 */
final class Run {
    static final int MOST_CALLS = 512;

    private static final Map<String, Integer> ARGUMENTS = Map.ofEntries(
            Map.entry("place", 1), Map.entry("shape", 3), Map.entry("corner", 3), Map.entry("close", 1),
            Map.entry("unsure", 2), Map.entry("force", 2), Map.entry("inside", 4), Map.entry("threeWay", 4),
            Map.entry("area", 2), Map.entry("misfit", 2), Map.entry("distance", 3), Map.entry("name", 4),
            Map.entry("nameOn", 2), Map.entry("mark", 4), Map.entry("placed", 3), Map.entry("masked", 4));

    record Step(String call, String due) {
        /** A refused call is one that throws, or a close or unsure that cannot be. */
        boolean isRefused() {
            return due != null && (due.startsWith("throws.") || due.equals("false"));
        }
    }

    private final BorderDays object = new BorderDays();
    private int calls = 0;

    static List<Step> steps(String text) {
        List<Step> steps = new ArrayList<>();
        for (String line : text.split("\n")) {
            for (String part : line.replaceAll("#.*", "").split(";")) {
                if (!part.isBlank()) {
                    steps.add(step(part));
                }
            }
        }
        return steps;
    }

    private static Step step(String part) {
        String[] sides = part.split("=");
        return new Step(sides[0].strip(), sides.length < 2 ? null : dueText(sides[1].strip()));
    }

    private static String dueText(String due) {
        return switch (due) {
            case "NSE" -> Check.NO_SUCH;
            case "IAE" -> Check.ARGUMENT;
            case "ISE" -> Check.STATE;
            case "true", "false", "done" -> due;
            default -> String.valueOf(number(due));
        };
    }

    private static int number(String text) {
        return switch (text) {
            case "NONE" -> BorderDays.NONE;
            case "min" -> Integer.MIN_VALUE;
            case "max" -> Integer.MAX_VALUE;
            default -> Integer.parseInt(text);
        };
    }

    /** How many of the document's 512 calls are left. */
    int callsLeft() {
        return MOST_CALLS - calls;
    }

    void dueAll(String what, List<Step> steps) {
        for (int i = 0; i < steps.size(); i++) {
            Step step = steps.get(i);
            String where = what + ": call " + (i + 1) + ", " + step.call;
            if (step.due != null) {
                Check.due(where, step.due, () -> answer(step.call));
            } else {
                String got = Check.told(() -> answer(step.call));
                Check.due(where + " answered " + got + ", goes", true,
                        () -> !got.startsWith("throws.") && !got.equals("false"));
            }
        }
        Check.due(what + ": it keeps to 512 calls", true, () -> calls <= MOST_CALLS);
    }

    Object answer(String text) {
        String[] words = text.split("\\s+");
        int[] a = new int[words.length - 1];
        for (int i = 0; i < a.length; i++) {
            a[i] = number(words[i + 1]);
        }
        return switch (words[0]) {
            case "places" -> places(a[0]);
            case "open" -> opened(a, 3);
            case "ring" -> closed(opened(a, 3));
            case "square" -> closed(opened(squareOf(a), 3));
            default -> faceCall(words[0], a);
        };
    }

    private int places(int count) {
        int last = BorderDays.NONE;
        for (int i = 0; i < count; i++) {
            calls++;
            last = object.place(BorderDays.NONE);
        }
        return last;
    }

    private int opened(int[] a, int firstCorner) {
        calls += 1 + (a.length - firstCorner) / 2;
        int shape = object.shape(a[0], a[1], a[2]);
        for (int i = firstCorner; i + 1 < a.length; i += 2) {
            object.corner(shape, a[i], a[i + 1]);
        }
        return shape;
    }

    private Object closed(int shape) {
        calls++;
        return object.close(shape) ? (Object) shape : (Object) false;
    }

    private static int[] squareOf(int[] a) {
        int x = a[3];
        int y = a[4];
        int side = a[5];
        return new int[] {a[0], a[1], a[2], x, y, x + side, y, x + side, y + side, x, y + side};
    }

    private Object faceCall(String name, int[] a) {
        if (!ARGUMENTS.containsKey(name) || ARGUMENTS.get(name) != a.length) {
            throw new AssertionError("the test has no right call: " + name);
        }
        calls++;
        return switch (name) {
            case "place" -> object.place(a[0]);
            case "shape" -> object.shape(a[0], a[1], a[2]);
            case "corner" -> object.corner(a[0], a[1], a[2]);
            case "close" -> object.close(a[0]);
            case "unsure" -> object.unsure(a[0], a[1]);
            case "force" -> object.force(a[0], a[1]);
            case "inside" -> object.inside(a[0], a[1], a[2], a[3]);
            case "threeWay" -> object.threeWay(a[0], a[1], a[2], a[3]);
            case "area" -> object.area(a[0], a[1]);
            case "misfit" -> object.misfit(a[0], a[1]);
            case "distance" -> object.distance(a[0], a[1], a[2]);
            case "nameOn" -> object.nameOn(a[0], a[1]);
            case "mark" -> object.mark(a[0], a[1], a[2], a[3]);
            case "placed" -> object.placed(a[0], a[1], a[2]);
            case "masked" -> object.masked(a[0], a[1], a[2], a[3]);
            default -> named(a);
        };
    }

    private Object named(int[] a) {
        object.name(a[0], a[1], a[2], a[3]);
        return "done";
    }
}
