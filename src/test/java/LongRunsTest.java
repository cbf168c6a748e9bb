import java.util.List;

/**
 * 'An object is used for at most 512 calls after it has been made': runs of 512 calls on one object, each with a start,
 * calls that are made over and over, and an end whose last call is the 512th; every answer on the way is due too.
 */
public final class LongRunsTest {
    private static final String SQUARE = "place NONE; square 0 0 9 0 0 4;";

    /** All that an object can hold: sixteen places one in the other, 32 shapes in pairs, 40 names, twelve marks. */
    private static final String FULL = "place NONE;" + numbered("place {n};", 15)
            + numbered("square {n} 0 9 {40n} 0 10 = {2n}; square {n} 5 9 {40n} 0 12 = {2n+1};", 16)
            + "name 0 7 0 100000;".repeat(24) + numbered("name {n} {40n} {n} {n};", 16)
            + "mark 0 0 0 0; mark 8 0 80 8; mark 0 8 -8 80;" + "mark 0 0 0 0;".repeat(8) + "mark 8 8 88 -88;"
            + numbered("unsure {2n} {2n+1} = true;", 16);

    public static void main(String[] args) {
        askedOverAndOver();
        refusedOverAndOver();
        changedOverAndOver();
        lastThatGoes();
        oneMoreThanGoes();
        full();
        Check.end("LongRunsTest");
    }

    /** A text once for each of as many numbers from 0 on. */
    private static String numbered(String text, int times) {
        StringBuilder all = new StringBuilder();
        for (int n = 0; n < times; n++) {
            all.append(text.replace("{n}", "" + n).replace("{2n}", "" + 2 * n).replace("{2n+1}", "" + (2 * n + 1))
                    .replace("{40n}", "" + 40 * n));
        }
        return all.append('\n').toString();
    }

    private static void toTheLastCall(String start, String overAndOver, String end) {
        String what = "512 calls, " + overAndOver.strip() + " then " + end.strip();
        List<Run.Step> middle = Run.steps(overAndOver);
        List<Run.Step> last = Run.steps(end);
        Run run = new Run();
        run.dueAll(what + ", start", Run.steps(start));
        for (int i = 0; run.callsLeft() > last.size(); i++) {
            run.dueAll(what + ", over and over " + i, List.of(middle.get(i % middle.size())));
        }
        run.dueAll(what + ", end", last);
        Check.due(what + ": calls left", 0, run::callsLeft);
    }

    private static void askedOverAndOver() {
        toTheLastCall(SQUARE, "force 0 9 = 0", "force 0 10 = NONE; area 0 9 = 32");
        toTheLastCall(SQUARE, "inside 4 4 9 0 = 0", "inside 5 4 9 0 = NONE; inside 0 0 0 0 = 0");
        toTheLastCall(SQUARE, "threeWay 0 4 4 9 = 2", "threeWay 0 5 4 9 = 0; threeWay 0 0 0 0 = 2");
        toTheLastCall(SQUARE, "area 0 9 = 32", "area 0 10 = 0; area 0 0 = 32");
        toTheLastCall("place NONE; place 0; square 0 0 9 0 0 4; square 1 0 9 0 0 5", "misfit 0 9 = 1",
                "misfit 1 9 = NONE; misfit 0 0 = 1");
        toTheLastCall(SQUARE, "distance 0 0 9 = 0", "distance 0 0 10 = NONE; distance 0 0 0 = 0");
        toTheLastCall(SQUARE + "name 0 3 0 9", "nameOn 0 9 = 3", "nameOn 0 10 = NONE; nameOn 0 0 = 3");
        toTheLastCall("mark 0 0 0 0; mark 8 0 80 8; mark 0 8 -8 80", "placed 4 4 0 = 36; placed 4 4 1 = 44",
                "placed 8 8 0 = ISE; placed 0 8 1 = 80");
        toTheLastCall("", "masked -7 13 5 0 = -10; masked -7 13 5 1 = 10",
                "masked 7 -13 5 0 = 5; masked 7 -13 5 1 = -15");
    }

    private static void refusedOverAndOver() {
        toTheLastCall("", "place 0 = NSE; shape 0 0 9 = NSE; corner 0 0 0 = NSE; close 0 = NSE; unsure 0 0 = NSE",
                "place 0 = NSE; place NONE = 0");
        toTheLastCall(SQUARE, "shape 0 9 8 = IAE; corner 0 10001 0 = IAE; name 0 -1 0 9 = IAE; mark 0 0 0 10001 = IAE",
                "mark 0 0 0 0 = 0; name 0 1 0 9 = done; nameOn 0 9 = 1; corner 0 1 1 = ISE; shape 0 8 9 = 1");
        toTheLastCall(SQUARE, "corner 0 1 1 = ISE; close 0 = false; unsure 0 0 = false",
                "area 0 9 = 32; force 0 9 = 0");
        toTheLastCall("place NONE; open 0 0 9 0 0 4 4 4 0", "corner 0 10001 0 = IAE",
                "corner 0 0 4 = 4; close 0 = false; force 0 9 = NONE");
        toTheLastCall("place NONE; open 0 0 9 0 0 4 4 4 0", "force 1 0 = NSE; area 0 -1 = IAE; misfit -1 0 = NSE",
                "close 0 = true; force 0 9 = 0; area 0 9 = 16");
        toTheLastCall("mark 0 0 0 0; mark 8 0 80 8", "placed 0 0 0 = ISE; placed 0 0 2 = NSE; masked 0 0 0 0 = IAE",
                "mark 0 8 -8 80 = 2; placed 0 8 0 = -8");
        toTheLastCall("place NONE;" + "place 0;".repeat(15), "place NONE = ISE; place 16 = NSE", "force 15 0 = NONE");
        toTheLastCall("place NONE;" + "shape 0 0 9;".repeat(32), "shape 0 0 9 = ISE; shape 1 0 9 = NSE",
                "corner 32 0 0 = NSE; corner 31 0 0 = 1");
        toTheLastCall("place NONE;" + "name 0 5 0 9;".repeat(40), "name 0 6 0 9 = ISE; name 0 6 9 0 = IAE",
                "nameOn 0 10 = NONE; nameOn 0 9 = 5");
        toTheLastCall("mark 0 0 5 6;".repeat(12), "mark 8 0 5 6 = ISE", "placed 0 0 0 = ISE; masked 3 3 2 0 = 2");
    }

    private static void changedOverAndOver() {
        String three = "place NONE; square 0 0 9 0 0 4; square 0 0 9 0 0 6; square 0 0 9 0 0 8;";
        toTheLastCall(three, "unsure 2 1 = true; threeWay 0 5 5 9 = 2; threeWay 0 7 7 9 = 1; threeWay 0 6 6 9 = 2; "
                + "unsure 0 2 = true; threeWay 0 5 5 9 = 1; threeWay 0 7 7 9 = 1; threeWay 0 4 4 9 = 2; "
                + "unsure 0 1 = true; threeWay 0 5 5 9 = 2; threeWay 0 7 7 9 = 2; threeWay 0 9 9 9 = 0",
                "unsure 1 2 = true; threeWay 0 5 5 9 = 2; threeWay 0 8 8 9 = 1");
        toTheLastCall(three, "unsure 1 0 = true; unsure 0 1 = true", "threeWay 0 5 5 9 = 2; force 0 9 = 2");
    }

    /** The last of its kind is made by the 512th call, or stands just before what asks after it. */
    private static void lastThatGoes() {
        toTheLastCall("places 15", "misfit 0 0 = NONE; force 15 0 = NSE", "place 14 = 15");
        toTheLastCall("places 16;" + "shape 0 0 9;".repeat(31), "corner 31 0 0 = NSE; force 0 0 = NONE",
                "shape 15 0 9 = 31");
        toTheLastCall("place NONE;" + "open 0 0 9 0 0 1 0 2 0 3 0 4 0 5 0 5 1 4 1 3 1 2 1 1 1", "force 0 9 = NONE",
                "corner 0 0 1 = 12; close 0 = true; area 0 9 = 10");
        toTheLastCall("place NONE;" + "name 0 5 0 9;".repeat(39), "nameOn 0 5 = 5",
                "name 0 6 5 5 = done; nameOn 0 5 = 6");
        toTheLastCall("mark 0 0 1 1;".repeat(10) + "mark 8 0 1 1", "placed 0 0 0 = ISE",
                "mark 0 8 1 1 = 11; placed 4 4 0 = 1");
        toTheLastCall("place NONE; open 0 0 9 0 0 4 0 0 4", "area 0 5 = 0; inside 1 1 5 0 = NONE", "close 0 = true");
        toTheLastCall(SQUARE + "square 0 0 9 0 0 6", "threeWay 0 5 5 5 = 2", "unsure 0 1 = true; threeWay 0 5 5 5 = 1");
    }

    /** The 512th call is the first one that cannot be. */
    private static void oneMoreThanGoes() {
        toTheLastCall("places 15", "misfit 0 0 = NONE", "place 14 = 15; place NONE = ISE");
        toTheLastCall("place NONE;" + "shape 0 0 9;".repeat(31), "force 0 0 = NONE",
                "shape 0 0 9 = 31; shape 0 0 9 = ISE");
        toTheLastCall("place NONE; open 0 0 9 0 0 1 0 2 0 3 0 4 0 5 0 5 1 4 1 3 1 2 1 1 1", "force 0 9 = NONE",
                "corner 0 0 1 = 12; corner 0 0 2 = ISE");
        toTheLastCall("place NONE;" + "name 0 5 0 9;".repeat(39), "nameOn 0 5 = 5",
                "name 0 6 5 5 = done; name 0 7 5 5 = ISE");
        toTheLastCall("mark 0 0 1 1;".repeat(11), "placed 0 0 0 = ISE", "mark 8 0 1 1 = 11; mark 0 8 1 1 = ISE");
        toTheLastCall("place NONE; open 0 0 9 0 0 4 0 0 4", "area 0 5 = 0", "close 0 = true; close 0 = false");
    }

    /** Place n's squares begin at x = 40n, so that no two places have a point in common. */
    private static void full() {
        toTheLastCall(FULL, numbered("force {n} 4 = {2n}; force {n} 5 = {2n+1}; "
                + "area {n} 4 = 200; area {n} 5 = 288;", 16),
                "force 15 9 = 31; force 15 4 = 30; force 15 10 = NONE");
        toTheLastCall(FULL, numbered("threeWay {n} {40n} 0 5 = 2; threeWay {n} {40n} 11 5 = 1; "
                + "threeWay {n} {40n} 13 5 = 0; threeWay {n} {40n} 11 4 = 1; inside {40n} 0 5 0 = {n}; "
                + "inside {40n} 0 5 1 = NONE; inside {40n} 13 5 0 = NONE;", 16),
                "inside 612 12 5 0 = 15; inside 613 12 5 0 = NONE; threeWay 15 612 12 5 = 1; threeWay 15 610 10 5 = 2");
        toTheLastCall(FULL, "misfit 0 5 = 1; misfit 14 5 = 15; misfit 15 5 = NONE; distance 0 1 4 = 900; "
                + "distance 1 0 5 = 784; distance 14 15 5 = 784; distance 15 15 5 = 0; distance 15 0 10 = NONE",
                "distance 0 15 5 = 345744; misfit 13 0 = 14");
        toTheLastCall(FULL, numbered("nameOn {n} {n} = {40n};", 16) + "nameOn 1 2 = NONE; nameOn 0 100000 = 7; "
                + "placed 4 4 0 = 36; placed 4 4 1 = 44; placed 8 8 0 = 88; placed 8 8 1 = -88; placed 9 9 0 = ISE",
                "nameOn 15 15 = 600; nameOn 0 0 = 0; placed 8 4 1 = -40");
        toTheLastCall(FULL, "place NONE = ISE; shape 15 0 9 = ISE; corner 31 0 0 = ISE; close 31 = false; "
                + "name 15 0 0 9 = ISE; mark 0 0 0 0 = ISE; unsure 31 29 = false",
                "unsure 30 31 = true; force 15 5 = 31; area 15 5 = 288; nameOn 15 15 = 600; placed 8 8 0 = 88");
    }
}
