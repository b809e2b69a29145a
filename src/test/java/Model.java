import java.util.ArrayList;
import java.util.HashMap;
import java.util.List;
import java.util.Map;
import java.util.TreeMap;
import java.util.TreeSet;

/**
 * The document's words once more, in another build: members in one map, and for each moved range the
 * keys that were brought, where the class keeps the rows of every shard.
 */
final class Model {
    static final String NO_SUCH = "IndexOutOfBoundsException";
    static final String OUT_OF_RANGE = "IllegalArgumentException";
    static final String REFUSED = "IllegalStateException";

    private static final class Range {
        int first;
        int last;
        int shard;
        int to = -1;
        final TreeSet<Integer> brought = new TreeSet<>();

        Range(int first, int last, int shard) {
            this.first = first;
            this.last = last;
            this.shard = shard;
        }

        boolean moved() {
            return to >= 0;
        }
    }

    private static final class Ballot {
        int address;
        int district;
        int state;
        boolean closed;
    }

    private final TreeMap<Integer, Integer> members = new TreeMap<>();
    private final List<Range> ranges = new ArrayList<>();
    private final List<Ballot> ballots = new ArrayList<>();
    private final int[][] tally = new int[4][3];
    private Map<Integer, Integer> roll = null;
    private final Map<Integer, Ballot> latest = new HashMap<>();

    Model() {
        ranges.add(new Range(0, 99, 0));
    }

    /** The answer that is due, or the name of the exception. */
    String answer(String call, int a, int b) {
        switch (call) {
            case "join": return key(a) ? address(b) ? join(a, b) : OUT_OF_RANGE : NO_SUCH;
            case "change": return key(a) ? address(b) ? change(a, b) : OUT_OF_RANGE : NO_SUCH;
            case "leave": return key(a) ? leave(a) : NO_SUCH;
            case "address": return key(a) ? "" + members.getOrDefault(a, -1) : NO_SUCH;
            case "inDistrict": return part(a) ? inDistrict(a) : NO_SUCH;
            case "split": return key(a) ? split(a) : NO_SUCH;
            case "merge": return range(a) ? merge(a) : NO_SUCH;
            case "move": return range(a) && part(b) ? move(ranges.get(a), b) : NO_SUCH;
            case "step": return range(a) ? step(ranges.get(a)) : NO_SUCH;
            case "giveUp": return range(a) ? giveUp(ranges.get(a)) : NO_SUCH;
            case "ranges": return "" + ranges.size();
            case "rangeOf": return key(a) ? "" + ranges.indexOf(at(a)) : NO_SUCH;
            case "shardOf": return range(a) ? "" + ranges.get(a).shard : NO_SUCH;
            case "rows": return part(a) ? rows(a) : NO_SUCH;
            case "fix": return fix();
            case "onRoll": return key(a) ? "" + (roll == null ? -1 : roll.getOrDefault(a, -1)) : NO_SUCH;
            case "send": return key(a) ? send(a) : NO_SUCH;
            case "sentTo": return ballot(a) ? "" + ballots.get(a).address : NO_SUCH;
            case "giveBack": return ballot(a) ? choice(b) ? giveBack(ballots.get(a), b) : OUT_OF_RANGE : NO_SUCH;
            case "stateOf": return ballot(a) ? "" + ballots.get(a).state : NO_SUCH;
            case "counted": return part(a) ? choice(b) ? "" + tally[a][b] : OUT_OF_RANGE : NO_SUCH;
            case "close": return close();
            default: throw new AssertionError(call);
        }
    }

    int rangeCount() {
        return ranges.size();
    }

    int memberCount() {
        return members.size();
    }

    int ballotCount() {
        return ballots.size();
    }

    private static boolean key(int key) {
        return 0 <= key && key <= 99;
    }

    private static boolean address(int address) {
        return 0 <= address && address <= 39;
    }

    private static boolean part(int part) {
        return 0 <= part && part <= 3;
    }

    private static boolean choice(int choice) {
        return 0 <= choice && choice <= 2;
    }

    private boolean range(int range) {
        return 0 <= range && range < ranges.size();
    }

    private boolean ballot(int ballot) {
        return 0 <= ballot && ballot < ballots.size();
    }

    private Range at(int key) {
        for (Range range : ranges) {
            if (range.first <= key && key <= range.last) {
                return range;
            }
        }
        throw new AssertionError("no range has " + key);
    }

    private int membersOf(Range range) {
        return members.subMap(range.first, true, range.last, true).size();
    }

    private void written(int key) {
        if (at(key).moved()) {
            at(key).brought.add(key);
        }
    }

    private String join(int key, int address) {
        if (members.containsKey(key) || members.size() == 40) {
            return REFUSED;
        }
        members.put(key, address);
        written(key);
        return "" + members.size();
    }

    private String change(int key, int address) {
        if (!members.containsKey(key)) {
            return REFUSED;
        }
        written(key);
        return "" + members.put(key, address);
    }

    private String leave(int key) {
        if (!members.containsKey(key)) {
            return REFUSED;
        }
        at(key).brought.remove(key);
        return "" + members.remove(key);
    }

    private String inDistrict(int district) {
        return "" + members.values().stream().filter(address -> address / 10 == district).count();
    }

    private String split(int key) {
        Range range = at(key);
        if (key == range.last || range.moved() || ranges.size() == 8) {
            return REFUSED;
        }
        int number = ranges.indexOf(range) + 1;
        ranges.add(number, new Range(key + 1, range.last, range.shard));
        range.last = key;
        return "" + number;
    }

    private String merge(int number) {
        if (number + 1 == ranges.size()) {
            return REFUSED;
        }
        Range range = ranges.get(number);
        Range next = ranges.get(number + 1);
        if (range.shard != next.shard || range.moved() || next.moved()) {
            return REFUSED;
        }
        range.last = next.last;
        ranges.remove(next);
        return "" + ranges.size();
    }

    private String move(Range range, int shard) {
        if (range.moved() || range.shard == shard) {
            return REFUSED;
        }
        range.to = shard;
        return "" + membersOf(range);
    }

    private String step(Range range) {
        if (!range.moved()) {
            return REFUSED;
        }
        for (int key : members.subMap(range.first, true, range.last, true).keySet()) {
            if (range.brought.add(key)) {
                return "" + key;
            }
        }
        range.shard = range.to;
        range.to = -1;
        range.brought.clear();
        return "-1";
    }

    private String giveUp(Range range) {
        if (!range.moved()) {
            return REFUSED;
        }
        int had = range.brought.size();
        range.to = -1;
        range.brought.clear();
        return "" + had;
    }

    private String rows(int shard) {
        int rows = 0;
        for (Range range : ranges) {
            rows += range.shard == shard ? membersOf(range) : 0;
            rows += range.to == shard ? range.brought.size() : 0;
        }
        return "" + rows;
    }

    private String fix() {
        if (roll != null) {
            return REFUSED;
        }
        roll = new HashMap<>();
        members.forEach((key, address) -> roll.put(key, address / 10));
        return "" + roll.size();
    }

    private String send(int key) {
        if (roll == null || !roll.containsKey(key) || !members.containsKey(key) || ballots.size() == 60) {
            return REFUSED;
        }
        Ballot earlier = latest.get(key);
        if (earlier != null && earlier.state == 2) {
            return REFUSED;
        }
        if (earlier != null) {
            earlier.state = 1;
        }
        Ballot ballot = new Ballot();
        ballot.address = members.get(key);
        ballot.district = roll.get(key);
        latest.put(key, ballot);
        ballots.add(ballot);
        return "" + (ballots.size() - 1);
    }

    private String giveBack(Ballot ballot, int choice) {
        if (ballot.state != 0 || ballot.closed) {
            return REFUSED;
        }
        ballot.state = 2;
        tally[ballot.district][choice]++;
        return "" + ballot.district;
    }

    private String close() {
        if (roll == null) {
            return REFUSED;
        }
        int out = 0;
        for (Ballot ballot : ballots) {
            out += !ballot.closed && ballot.state == 0 ? 1 : 0;
            ballot.closed = true;
        }
        roll = null;
        latest.clear();
        return "" + out;
    }
}
