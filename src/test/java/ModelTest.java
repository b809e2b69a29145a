import java.util.Map;
import java.util.Random;
import java.util.TreeMap;

/**
 * Runs of 512 calls drawn from fixed seeds, each answer held against the model's. A call that throws
 * leaves the model as it was, so the calls that follow show it if the class changed.
 */
public final class ModelTest {
    private static final int RUNS = 1500;
    private static final int CALLS = 512;
    private static final String[] WRITES = {
        "join", "change", "leave", "split", "merge", "move", "step", "giveUp", "fix", "send", "giveBack", "close"};
    private static final String[] READS = {
        "address", "inDistrict", "ranges", "rangeOf", "shardOf", "rows", "onRoll", "sentTo", "stateOf", "counted"};
    // How often each write is drawn, in the order of WRITES; a run keeps to one row.
    private static final int[][] MIXES = {
        {8, 6, 4, 4, 3, 6, 14, 2, 1, 10, 8, 1},
        {20, 4, 1, 1, 1, 2, 3, 1, 2, 6, 4, 1},
        {6, 6, 6, 6, 3, 12, 30, 3, 0, 0, 0, 0},
        {6, 3, 1, 0, 0, 1, 2, 0, 3, 30, 4, 1},
        {10, 3, 1, 0, 0, 1, 2, 0, 3, 60, 3, 1},
        {6, 3, 3, 3, 1, 3, 6, 1, 6, 12, 8, 6},
        {2, 2, 1, 20, 4, 4, 6, 1, 1, 1, 1, 1}};
    private static final int[] FAR = {Integer.MIN_VALUE, Integer.MIN_VALUE + 1, Integer.MAX_VALUE - 1, Integer.MAX_VALUE};

    private static final Map<String, Integer> OUTCOMES = new TreeMap<>();

    public static void main(String[] args) {
        Checks x = new Checks();
        for (int seed = 0; seed < RUNS; seed++) {
            run(x, seed);
        }
        everyOutcomeWasSeen(x);
        x.end("ModelTest");
    }

    private static void run(Checks x, int seed) {
        Random random = new Random(seed);
        int[] mix = MIXES[seed % MIXES.length];
        int keys = random.nextInt(3) == 0 ? 100 : 6 + random.nextInt(60);
        ShardBallots object = new ShardBallots();
        Model model = new Model();
        StringBuilder calls = new StringBuilder();
        for (int made = 0; made < CALLS; made++) {
            String call = random.nextInt(5) < 2 ? READS[random.nextInt(READS.length)] : drawn(random, mix);
            int a = first(random, call, keys, model);
            int b = second(random, call);
            String want = model.answer(call, a, b);
            String got = Checks.answerOf(() -> Calls.made(object, call, a, b));
            calls.append(call).append('(').append(a).append(", ").append(b).append(") ");
            x.same(got.equals(want) ? call : "seed " + seed + ": " + calls, want, got);
            OUTCOMES.merge(call + " " + kind(want), 1, Integer::sum);
            OUTCOMES.merge("ranges " + model.rangeCount(), 1, Integer::sum);
            OUTCOMES.merge("members " + model.memberCount(), 1, Integer::sum);
            OUTCOMES.merge("ballots " + model.ballotCount(), 1, Integer::sum);
            if (!got.equals(want)) {
                return;
            }
        }
    }

    private static String kind(String answer) {
        return answer.endsWith("Exception") ? answer : answer.equals("-1") ? "NONE" : "a number";
    }

    private static String drawn(Random random, int[] mix) {
        int all = 0;
        for (int part : mix) {
            all += part;
        }
        int left = random.nextInt(all);
        int write = 0;
        while (left >= mix[write]) {
            left -= mix[write];
            write++;
        }
        return WRITES[write];
    }

    private static int first(Random random, String call, int keys, Model model) {
        int limit;
        switch (call) {
            case "inDistrict": case "rows": case "counted": limit = 4; break;
            case "merge": case "move": case "step": case "giveUp": case "shardOf": limit = model.rangeCount(); break;
            case "sentTo": case "giveBack": case "stateOf": limit = model.ballotCount(); break;
            default: limit = keys;
        }
        if (random.nextInt(40) == 0) {
            return wrong(random, limit);
        }
        // Of a hundred keys, the outermost would come up too seldom.
        if (limit == 100 && random.nextInt(10) == 0) {
            return random.nextBoolean() ? random.nextInt(3) : 99 - random.nextInt(3);
        }
        // The newest ballots are those that are not replaced yet.
        if (call.equals("giveBack") && limit > 0 && random.nextBoolean()) {
            return Math.max(0, limit - 1 - random.nextInt(3));
        }
        return limit == 0 ? 0 : random.nextInt(limit);
    }

    private static int second(Random random, String call) {
        int limit;
        switch (call) {
            case "join": case "change": limit = 40; break;
            case "move": limit = 4; break;
            case "giveBack": case "counted": limit = 3; break;
            default: return 0;
        }
        return random.nextInt(30) == 0 ? wrong(random, limit) : random.nextInt(limit);
    }

    private static int wrong(Random random, int limit) {
        switch (random.nextInt(4)) {
            case 0: return -1;
            case 1: return limit;
            case 2: return -1 - random.nextInt(200);
            default: return FAR[random.nextInt(FAR.length)];
        }
    }

    // Without this, a change of the mixes could leave an answer untried unseen.
    private static void everyOutcomeWasSeen(Checks x) {
        String[] due = {
            "join nIBS", "change nIBS", "leave nIS", "address nNI", "inDistrict nI", "split nIS", "merge nIS",
            "move nIS", "step nNIS", "giveUp nIS", "ranges n", "rangeOf nI", "shardOf nI", "rows nI", "fix nS",
            "onRoll nNI", "send nIS", "sentTo nI", "giveBack nIBS", "stateOf nI", "counted nIB", "close nS"};
        for (String row : due) {
            String call = row.substring(0, row.indexOf(' '));
            for (char sign : row.substring(row.indexOf(' ') + 1).toCharArray()) {
                String kind = sign == 'I' ? Model.NO_SUCH : sign == 'B' ? Model.OUT_OF_RANGE
                        : sign == 'S' ? Model.REFUSED : sign == 'N' ? "NONE" : "a number";
                seenOften(x, call + " " + kind);
            }
        }
        seenOften(x, "ranges 8");
        seenOften(x, "members 40");
        seenOften(x, "ballots 60");
    }

    private static void seenOften(Checks x, String outcome) {
        x.same("a hundred times " + outcome, "true", "" + (OUTCOMES.getOrDefault(outcome, 0) >= 100));
    }
}
