import java.util.ArrayList;
import java.util.List;

/** What can be asked of an object later on, to see whether a call has changed something in it. */
final class Later {
    /** Points in, on and off the borders that the tests draw; the farthest ones too. */
    private static final int[][] POINTS = {{0, 0}, {5, 5}, {10, 10}, {-1, 3}, {100, 100}, {10000, -10000}};

    private Later() {
    }

    /** Asks after all that is there, then closes and changes it, and asks again. */
    static List<String> questions() {
        List<String> calls = new ArrayList<>();
        for (int place = 0; place < 16; place++) {
            askOfPlace(calls, place);
        }
        askOfPoints(calls);
        calls.add("place NONE");
        calls.add("shape 0 4 6");
        calls.add("mark 3 17 40 50");
        calls.add("name 0 55 4 4");
        calls.add("nameOn 0 4");
        for (int shape = 0; shape < 32; shape++) {
            // closed at once, so that no further corner can hide one that was changed
            calls.add("close " + shape);
            calls.add("corner " + shape + " " + (3 + shape) + " -40");
            calls.add("close " + shape);
        }
        for (int shape = 1; shape < 8; shape++) {
            calls.add("unsure 0 " + shape);
            calls.add("threeWay 0 5 5 5");
        }
        for (int place = 0; place < 16; place++) {
            calls.add("force " + place + " 5");
            calls.add("area " + place + " 5");
        }
        return calls;
    }

    private static void askOfPlace(List<String> calls, int place) {
        for (int day : new int[] {0, 5, 100000}) {
            calls.add("force " + place + " " + day);
        }
        for (int day : new int[] {0, 5, 100000}) {
            calls.add("nameOn " + place + " " + day);
        }
        calls.add("area " + place + " 5");
        calls.add("threeWay " + place + " 5 5 5");
        calls.add("distance 0 " + place + " 5");
    }

    private static void askOfPoints(List<String> calls) {
        for (int[] p : POINTS) {
            String point = p[0] + " " + p[1];
            calls.add("inside " + point + " 5 0");
            calls.add("inside " + point + " 5 1");
            calls.add("threeWay 0 " + point + " 5");
            calls.add("placed " + point + " 0");
            calls.add("placed " + point + " 1");
            calls.add("masked " + point + " 7 1");
        }
        for (int k = 0; k < 4; k++) {
            calls.add("misfit " + k + " 5");
        }
    }

    /** Makes one more of everything until nothing more goes, whatever there is already, then asks what was kept. */
    static List<String> growth() {
        List<String> calls = new ArrayList<>();
        add(calls, 17, "place NONE");
        add(calls, 33, "shape 1 0 9");
        add(calls, 13, "corner 31 N 0");
        add(calls, 13, "corner 0 N 1");
        add(calls, 41, "name 0 N N 99");
        add(calls, 13, "mark N 7 N N");
        add(calls, 41, "nameOn 0 N");
        calls.add("nameOn 0 99");
        calls.add("mark 0 0 0 0");
        calls.add("close 31");
        calls.add("close 0");
        return calls;
    }

    private static void add(List<String> calls, int times, String call) {
        for (int i = 0; i < times; i++) {
            calls.add(call.replace("N ", i + " ").replaceAll("N$", "" + i));
        }
    }
}
