import java.util.ArrayList;
import java.util.List;

/** Makes calls by name; a run of calls is a text such as "join 10 5; split 49; move 0 2". */
final class Calls {
    static int made(ShardBallots x, String call, int a, int b) {
        switch (call) {
            case "join": return x.join(a, b);
            case "change": return x.change(a, b);
            case "leave": return x.leave(a);
            case "address": return x.address(a);
            case "inDistrict": return x.inDistrict(a);
            case "split": return x.split(a);
            case "merge": return x.merge(a);
            case "move": return x.move(a, b);
            case "step": return x.step(a);
            case "giveUp": return x.giveUp(a);
            case "ranges": return x.ranges();
            case "rangeOf": return x.rangeOf(a);
            case "shardOf": return x.shardOf(a);
            case "rows": return x.rows(a);
            case "fix": return x.fix();
            case "onRoll": return x.onRoll(a);
            case "send": return x.send(a);
            case "sentTo": return x.sentTo(a);
            case "giveBack": return x.giveBack(a, b);
            case "stateOf": return x.stateOf(a);
            case "counted": return x.counted(a, b);
            case "close": return x.close();
            default: throw new AssertionError(call);
        }
    }

    /** The answers of a run on a new object: numbers, and names of exceptions. */
    static List<String> answers(String run) {
        ShardBallots object = new ShardBallots();
        List<String> answers = new ArrayList<>();
        for (String call : parts(run)) {
            String[] words = call.split(" ");
            int a = words.length > 1 ? Integer.parseInt(words[1]) : 0;
            int b = words.length > 2 ? Integer.parseInt(words[2]) : 0;
            answers.add(Checks.answerOf(() -> made(object, words[0], a, b)));
        }
        return answers;
    }

    static String[] parts(String run) {
        return run.isEmpty() ? new String[0] : run.split("; ");
    }

    /** One run behind another; each may be empty. */
    static String joined(String... runs) {
        StringBuilder all = new StringBuilder();
        for (String run : runs) {
            all.append(all.length() == 0 || run.isEmpty() ? "" : "; ").append(run);
        }
        return all.toString();
    }

    /** The same call several times. */
    static String times(int count, String call) {
        StringBuilder all = new StringBuilder();
        for (int made = 0; made < count; made++) {
            all.append(made == 0 ? "" : "; ").append(call);
        }
        return all.toString();
    }

    /** A call for each number from one to another one, which stands where the % is. */
    static String each(int from, int to, String call) {
        StringBuilder all = new StringBuilder();
        for (int number = from; number <= to; number++) {
            all.append(number == from ? "" : "; ").append(call.replace("%", "" + number));
        }
        return all.toString();
    }
}
