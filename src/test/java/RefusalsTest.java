import java.util.ArrayList;
import java.util.List;

/**
 * 'Such a call changes nothing.': each refused call is made alone, in objects that hold nothing, some and all that can
 * be, and all later answers are held against those of an object on which it was not made.
 */
public final class RefusalsTest {
    private static final String EMPTY = "";

    /** Of all there is some, with shapes that are open, closed, unsure, full, and that cannot be closed. */
    private static final String SOME = """
            place NONE; place 0; place 0; square 0 0 9 0 0 10; square 0 3 6 0 0 6; square 1 0 9 2 2 7
            open 0 5 5 0 0 4 0 0 4; open 0 5 5 0 0 1 0 2 0 3 0 4 0 5 0 5 1 4 1 3 1 2 1 1 1 0 1
            open 2 5 5 0 0 4 4 4 0 0 4; shape 2 0 100000; unsure 0 1; name 0 7 0 100000; name 1 8 5 5; name 0 9 4 6
            mark 0 0 0 0; mark 8 0 80 1; mark 9 0 1 1; mark 0 8 2 80
            """;

    private static final String FULL = "place NONE;" + "place 0;".repeat(15) + """
            square 0 0 9 0 0 10; square 0 3 6 0 0 6; square 1 0 9 2 2 7; unsure 0 1; open 0 5 5 0 0 4 0 0 4
            open 0 5 5 0 0 1 0 2 0 3 0 4 0 5 0 5 1 4 1 3 1 2 1 1 1 0 1
            """ + "shape 2 0 9;".repeat(25) + "square 3 5 5 20 20 4; square 15 5 5 0 0 100;"
            + "name 0 7 0 100000;".repeat(20) + "name 1 8 5 5; name 15 9 0 9;".repeat(10)
            + "mark 0 0 0 0; mark 8 0 80 1; mark 0 8 2 80;" + "mark 10 10 5 5;".repeat(9);

    /** Wrong whatever there is; %P and %S stand for places and shapes that are none. */
    private static final String ALWAYS_REFUSED = """
            place %P = NSE; shape %P 0 9 = NSE; shape %P 9 0 = NSE; shape %P -1 0 = NSE
            corner %S 0 0 = NSE; corner %S 10001 0 = NSE; close %S = NSE; unsure %S %S = NSE
            force %P 0 = NSE; force %P -1 = NSE; threeWay %P 0 0 0 = NSE; threeWay %P 10001 0 -1 = NSE
            area %P 0 = NSE; area %P -1 = NSE; distance %P %P 0 = NSE; distance %P %P 100001 = NSE
            name %P 5 0 9 = NSE; name %P -1 9 0 = NSE; nameOn %P 0 = NSE; nameOn %P -1 = NSE
            inside 0 0 0 -1 = NSE; inside 10001 0 -1 min = NSE; inside 10001 0 0 0 = IAE; inside 0 -10001 0 0 = IAE
            inside 0 0 -1 0 = IAE; inside 0 0 100001 0 = IAE; misfit -1 0 = NSE; misfit min -1 = NSE
            misfit 0 -1 = IAE; misfit 0 100001 = IAE; mark 10001 0 0 0 = IAE; mark 0 -10001 0 0 = IAE
            mark 0 0 10001 0 = IAE; mark 0 0 0 -10001 = IAE; placed 0 0 -1 = NSE; placed 10001 0 2 = NSE
            placed 10001 0 0 = IAE; placed 0 -10001 1 = IAE; placed -100 -100 0 = ISE; placed -100 -100 1 = ISE
            masked 0 0 5 -1 = NSE; masked 10001 0 0 2 = NSE; masked 10001 0 5 0 = IAE; masked 0 -10001 5 1 = IAE
            masked 0 0 0 0 = IAE; masked 0 0 10001 1 = IAE; masked 0 0 min 0 = IAE
            """;

    /** Refused where there are places, and shapes as in both objects that hold some. */
    private static final String REFUSED_WITH_SOME = """
            shape 0 -1 5 = IAE; shape 0 5 100001 = IAE; shape 0 6 5 = IAE; shape 0 min max = IAE
            corner 3 10001 0 = IAE; corner 3 0 -10001 = IAE; corner 0 -10001 0 = IAE; corner 4 0 10001 = IAE
            corner 0 3 3 = ISE; corner 1 3 3 = ISE; corner 4 3 3 = ISE
            close 0 = false; close 1 = false; close 2 = false; close 6 = false
            unsure 0 0 = false; unsure 1 1 = false; unsure 0 2 = false; unsure 2 0 = false; unsure 0 3 = false
            unsure 3 0 = false; unsure 3 4 = false; unsure 6 6 = false; unsure 1 2 = false; unsure 4 1 = false
            unsure 0 -1 = NSE; unsure 32 0 = NSE; unsure 1 32 = NSE; unsure -1 1 = NSE
            force 0 -1 = IAE; force 0 100001 = IAE; threeWay 0 10001 0 5 = IAE; threeWay 0 0 -10001 5 = IAE
            threeWay 0 5 5 -1 = IAE; threeWay 0 5 5 100001 = IAE; area 0 -1 = IAE; area 0 100001 = IAE
            distance 0 -1 5 = NSE; distance 16 0 5 = NSE; distance 0 1 -1 = IAE; distance 0 1 100001 = IAE
            name 0 5 -1 5 = IAE; name 0 5 5 100001 = IAE; name 0 5 6 5 = IAE; name 0 -1 0 9 = IAE
            name 0 min 0 100000 = IAE; nameOn 0 -1 = IAE; nameOn 0 100001 = IAE
            """;

    private static final String REFUSED_WHEN_FULL = """
            place NONE = ISE; place 0 = ISE; place 15 = ISE; shape 0 0 9 = ISE; shape 15 5 5 = ISE
            shape 0 0 100000 = ISE; name 0 55 0 9 = ISE; name 15 0 5 5 = ISE; name 1 max 0 100000 = ISE
            mark 0 0 0 0 = ISE; mark 5 5 7 7 = ISE; mark -10000 -10000 10000 10000 = ISE; close 31 = false
            """;

    public static void main(String[] args) {
        changeNothing("an empty object", EMPTY, forNone(ALWAYS_REFUSED, 0, 0));
        changeNothing("some", SOME, forNone(ALWAYS_REFUSED, 3, 7) + REFUSED_WITH_SOME + "close 5 = false");
        changeNothing("a full object", FULL, forNone(ALWAYS_REFUSED, 16, 32) + REFUSED_WITH_SOME + REFUSED_WHEN_FULL);
        Check.end("RefusalsTest");
    }

    /** The calls for each number that is none: the first behind those that there are, and those far off. */
    private static String forNone(String calls, int places, int shapes) {
        StringBuilder all = new StringBuilder();
        int[][] wrong = {{places, shapes}, {-2, -1}, {Integer.MAX_VALUE, Integer.MAX_VALUE},
            {Integer.MIN_VALUE, Integer.MIN_VALUE}};
        for (int[] pair : wrong) {
            all.append(calls.replace("%P", "" + pair[0]).replace("%S", "" + pair[1]));
        }
        return all.toString();
    }

    private static void changeNothing(String where, String state, String refused) {
        List<Run.Step> before = Run.steps(state);
        List<List<String>> later = List.of(Later.questions(), Later.growth());
        for (Run.Step step : Run.steps(refused)) {
            for (List<String> calls : later) {
                changesNothing("refused in " + where + ": " + step.call(), before, step, calls);
            }
        }
    }

    /** Made three times, so that what a call spoils by a little is seen too. */
    private static void changesNothing(String what, List<Run.Step> before, Run.Step step, List<String> later) {
        Run with = new Run();
        with.dueAll(what + ": made ready", before);
        with.dueAll(what, new ArrayList<>(List.of(step, step, step)));
        Run without = new Run();
        without.dueAll(what + ": made ready", before);
        Check.due(what + ": all that is asked later fits into 512 calls", true, () -> later.size() <= with.callsLeft());
        Sentence.sameLater(what, later, without, with);
    }
}
