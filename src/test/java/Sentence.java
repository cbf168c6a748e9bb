import java.util.List;

/** A sentence of the document and the runs of calls that would not go as written if it did not hold. */
final class Sentence {
    private Sentence() {
    }

    /** Each run is made on an object of its own; the document's words stand in front of what is not as due. */
    static void holds(String words, String... runs) {
        for (int i = 0; i < runs.length; i++) {
            holdsIn("\"" + words + "\", run " + (i + 1), Run.steps(runs[i]));
        }
    }

    /** With the refused calls and without them: 'Such a call changes nothing' goes for every run. */
    private static void holdsIn(String what, List<Run.Step> steps) {
        Run all = new Run();
        all.dueAll(what, steps);
        Run accepted = new Run();
        accepted.dueAll(what + " without refused calls", steps.stream().filter(step -> !step.isRefused()).toList());
        sameLater(what, Later.questions(), accepted, all);
    }

    /** Asks both objects the same, as far as the 512 calls of the one with more of them go. */
    static void sameLater(String what, List<String> calls, Run without, Run with) {
        for (String call : calls) {
            if (with.callsLeft() == 0) {
                return;
            }
            String want = Check.told(() -> without.answer(call));
            Check.due(what + ", later " + call, want, () -> with.answer(call));
        }
    }
}
