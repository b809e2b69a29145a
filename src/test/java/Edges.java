import java.util.List;

/**
 * Tests of the edges that the document names: the last call that is allowed, and the first one that is
 * refused. What is refused must leave the object as it was: no run of calls that follows may tell whether
 * the call was made. An object is used for 512 calls, too few to see all of it, so each such run is made on
 * two new objects, with and without the call.
 */
final class Edges {
    private static final int MOST_CALLS = 512;

    // Reads see what can be read; the others go on, each in its way, until it shows in answers what cannot
    // be read: what was brought, which ballot is the latest to a key and of which vote, what is full.
    private static final String[] GOING_ON = {
        Calls.joined(Calls.each(0, 99, "address %"), Calls.each(0, 3, "inDistrict %"), Calls.each(0, 3, "rows %"),
                "ranges", Calls.each(0, 99, "rangeOf %"), Calls.each(0, 7, "shardOf %")),
        Calls.joined(Calls.each(0, 99, "onRoll %"), Calls.each(0, 59, "sentTo %"), Calls.each(0, 59, "stateOf %"),
                allCounted()),
        Calls.joined(stepsOfAllRanges(), Calls.each(0, 3, "rows %"), Calls.each(0, 7, "shardOf %")),
        Calls.joined(Calls.each(0, 7, "giveUp %"), Calls.each(0, 3, "rows %"), Calls.each(0, 7, "move % 3"),
                Calls.each(0, 7, "move % 0")),
        Calls.joined(Calls.each(0, 98, "split %"), Calls.each(0, 7, "merge %"), "ranges"),
        Calls.joined(Calls.each(0, 7, "merge %"), "ranges", Calls.each(0, 99, "rangeOf %")),
        Calls.joined(Calls.each(0, 99, "join % 7"), Calls.each(0, 99, "leave %"), Calls.each(0, 3, "rows %")),
        Calls.joined(Calls.each(0, 99, "change % 17"), Calls.each(0, 3, "inDistrict %"), Calls.each(0, 3, "rows %")),
        Calls.joined(Calls.each(0, 59, "giveBack % 1"), allCounted(), "close", "fix", "close"),
        Calls.joined(Calls.each(0, 99, "send %"), Calls.each(0, 59, "stateOf %"), "close", "fix",
                Calls.each(0, 99, "send %"), "close")};

    private final Checks checks = new Checks();
    private String sentence = "";

    private static String allCounted() {
        return Calls.joined(Calls.each(0, 3, "counted % 0"), Calls.each(0, 3, "counted % 1"),
                Calls.each(0, 3, "counted % 2"));
    }

    // 41 steps bring the rows of 40 members and end the move.
    private static String stepsOfAllRanges() {
        String all = "";
        for (int range = 0; range < 8; range++) {
            all = Calls.joined(all, Calls.times(41, "step " + range));
        }
        return all;
    }

    /** Says which sentence of the document the calls below are for. */
    void sentence(String words) {
        sentence = words;
    }

    /** The call behind the run is allowed, and has this answer. */
    void allowed(String before, String call, int answer) {
        List<String> answers = made(before, call);
        checks.same(where(before, call), "" + answer, last(answers));
    }

    /** Numbers that are none of 0 to count - 1: the next ones, the farthest, and one whose hundredfold wraps to 4. */
    static int[] noneOf(int count) {
        return new int[] {-1, count, Integer.MIN_VALUE, Integer.MAX_VALUE, 42949673};
    }

    /** There is no such key, range, shard, district or ballot; with numbers, with each where the % is. */
    void noSuch(String before, String call, int... numbers) {
        dueThrow(before, call, Model.NO_SUCH, numbers);
    }

    /** Another argument is out of its range; with numbers, with each where the % is. */
    void outOfRange(String before, String call, int... numbers) {
        dueThrow(before, call, Model.OUT_OF_RANGE, numbers);
    }

    /** It is not the time for the call; with numbers, with each where the % is. */
    void refused(String before, String call, int... numbers) {
        dueThrow(before, call, Model.REFUSED, numbers);
    }

    private void dueThrow(String before, String call, String exception, int... numbers) {
        if (numbers.length == 0) {
            dueThrowOnce(before, call, exception);
        }
        for (int number : numbers) {
            dueThrowOnce(before, call.replace("%", "" + number), exception);
        }
    }

    private void dueThrowOnce(String before, String call, String exception) {
        checks.same(where(before, call), exception, last(made(before, call)));
        for (String goingOn : GOING_ON) {
            changesNothing(before, call, goingOn);
        }
    }

    void end(String test) {
        checks.end(test);
    }

    private void changesNothing(String before, String call, String goingOn) {
        List<String> without = made(before, goingOn);
        List<String> with = made(before, call, goingOn);
        int calls = Calls.parts(before).length;
        String[] parts = Calls.parts(goingOn);
        for (int part = 0; part < parts.length; part++) {
            String due = without.get(calls + part);
            String got = with.get(calls + 1 + part);
            if (!due.equals(got)) {
                checks.same(where(before, call) + " changed something, for later " + parts[part], due, got);
                return;
            }
        }
        checks.seen();
    }

    private List<String> made(String before, String... more) {
        String run = Calls.joined(before, Calls.joined(more));
        List<String> answers = Calls.answers(run);
        int calls = Calls.parts(before).length;
        for (int call = 0; call < calls; call++) {
            if (answers.get(call).endsWith("Exception")) {
                checks.same(where(before, "call " + call), "a number", answers.get(call));
            }
        }
        if (answers.size() > MOST_CALLS) {
            checks.same(where(before, "the calls"), "at most " + MOST_CALLS, "" + answers.size());
        }
        return answers;
    }

    private static String last(List<String> answers) {
        return answers.get(answers.size() - 1);
    }

    // Of a long run, its beginning finds it in the test.
    private String where(String before, String call) {
        String run = before.length() <= 300 ? before : before.substring(0, 200) + " .. and so on ..";
        return sentence + ": " + (run.isEmpty() ? "" : run + "; ") + call;
    }
}
