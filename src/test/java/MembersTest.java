/** Promises 1 to 6: a new object, join, change, leave, address, inDistrict. */
public final class MembersTest {
    private static final Checks X = new Checks();
    private static final int NONE = ShardBallots.NONE;
    private static final int LOW = Integer.MIN_VALUE, HIGH = Integer.MAX_VALUE;

    public static void main(String[] args) {
        aNewObjectHasNoMembersAndOneRange();
        joinCountsMembers();
        joinRefuses();
        joinStopsAtForty();
        changeAnswersTheAddressBefore();
        changeRefuses();
        leaveAnswersTheLastAddress();
        leaveRefuses();
        addressOfNoMemberIsNone();
        inDistrictCountsByTheAddress();
        inDistrictCountsARowOfTwoShardsOnce();
        X.end("MembersTest");
    }

    private static void aNewObjectHasNoMembersAndOneRange() {
        ShardBallots b = new ShardBallots();
        X.due("ranges", 1, () -> b.ranges());
        X.due("shardOf(0)", 0, () -> b.shardOf(0));
        X.noSuch("shardOf(1)", () -> b.shardOf(1));
        for (int key = 0; key < 100; key++) {
            int k = key;
            X.due("address(" + k + ")", NONE, () -> b.address(k));
            X.due("rangeOf(" + k + ")", 0, () -> b.rangeOf(k));
            X.due("onRoll(" + k + ")", NONE, () -> b.onRoll(k));
        }
        for (int part = 0; part < 4; part++) {
            int p = part;
            X.due("rows(" + p + ")", 0, () -> b.rows(p));
            X.due("inDistrict(" + p + ")", 0, () -> b.inDistrict(p));
            for (int choice = 0; choice < 3; choice++) {
                int c = choice;
                X.due("counted(" + p + ", " + c + ")", 0, () -> b.counted(p, c));
            }
        }
        X.noSuch("stateOf(0)", () -> b.stateOf(0));
        X.noSuch("sentTo(0)", () -> b.sentTo(0));
        X.refused("step(0)", () -> b.step(0));
        X.refused("close()", () -> b.close());
    }

    private static void joinCountsMembers() {
        ShardBallots b = new ShardBallots();
        X.due("join the lowest", 1, () -> b.join(0, 0));
        X.due("join the highest", 2, () -> b.join(99, 39));
        X.due("address(0)", 0, () -> b.address(0));
        X.due("address(99)", 39, () -> b.address(99));
        X.due("leave(0)", 0, () -> b.leave(0));
        X.due("join again", 2, () -> b.join(0, 7));
        X.due("address(0) after", 7, () -> b.address(0));
    }

    private static void joinRefuses() {
        ShardBallots b = new ShardBallots();
        b.join(5, 5);
        for (int key : new int[] {LOW, -1, 100, HIGH}) {
            X.noSuch("join(" + key + ", 0)", () -> b.join(key, 0));
            X.noSuch("join(" + key + ", 40)", () -> b.join(key, 40));
        }
        for (int address : new int[] {LOW, -1, 40, HIGH}) {
            X.outOfRange("join(6, " + address + ")", () -> b.join(6, address));
            X.outOfRange("join(5, " + address + ")", () -> b.join(5, address));
        }
        X.refused("join(5, 6)", () -> b.join(5, 6));
        X.due("address(5)", 5, () -> b.address(5));
        X.due("address(6)", NONE, () -> b.address(6));
        X.due("rows(0)", 1, () -> b.rows(0));
        X.due("join(6, 0)", 2, () -> b.join(6, 0));
    }

    private static void joinStopsAtForty() {
        ShardBallots b = new ShardBallots();
        for (int member = 0; member < 40; member++) {
            int m = member;
            X.due("join(" + 2 * m + ", " + m + ")", m + 1, () -> b.join(2 * m, m));
        }
        X.refused("join the 41st", () -> b.join(99, 0));
        X.noSuch("join with no key", () -> b.join(100, 0));
        X.outOfRange("join with no address", () -> b.join(99, 40));
        X.due("address(99)", NONE, () -> b.address(99));
        X.due("leave(4)", 2, () -> b.leave(4));
        X.due("join after one left", 40, () -> b.join(99, 0));
        X.refused("join the 41st again", () -> b.join(4, 0));
    }

    private static void changeAnswersTheAddressBefore() {
        ShardBallots b = new ShardBallots();
        b.join(10, 1);
        X.due("change(10, 39)", 1, () -> b.change(10, 39));
        X.due("change(10, 0)", 39, () -> b.change(10, 0));
        X.due("change(10, 0) to the same", 0, () -> b.change(10, 0));
        X.due("address(10)", 0, () -> b.address(10));
        X.due("rows(0)", 1, () -> b.rows(0));
        X.due("join another", 2, () -> b.join(11, 0));
    }

    private static void changeRefuses() {
        ShardBallots b = new ShardBallots();
        b.join(10, 1);
        for (int key : new int[] {LOW, -1, 100, HIGH}) {
            X.noSuch("change(" + key + ", 0)", () -> b.change(key, 0));
            X.noSuch("change(" + key + ", -1)", () -> b.change(key, -1));
        }
        for (int address : new int[] {LOW, -1, 40, HIGH}) {
            X.outOfRange("change(10, " + address + ")", () -> b.change(10, address));
            X.outOfRange("change(11, " + address + ")", () -> b.change(11, address));
        }
        X.refused("change(11, 0)", () -> b.change(11, 0));
        X.due("address(10)", 1, () -> b.address(10));
        X.due("address(11)", NONE, () -> b.address(11));
    }

    private static void leaveAnswersTheLastAddress() {
        ShardBallots b = new ShardBallots();
        b.join(10, 1);
        b.join(20, 2);
        b.change(10, 33);
        X.due("leave(10)", 33, () -> b.leave(10));
        X.due("address(10)", NONE, () -> b.address(10));
        X.due("address(20)", 2, () -> b.address(20));
        X.due("rows(0)", 1, () -> b.rows(0));
        X.due("inDistrict(3)", 0, () -> b.inDistrict(3));
    }

    private static void leaveRefuses() {
        ShardBallots b = new ShardBallots();
        b.join(10, 1);
        for (int key : new int[] {LOW, -1, 100, HIGH}) {
            X.noSuch("leave(" + key + ")", () -> b.leave(key));
        }
        X.refused("leave(11)", () -> b.leave(11));
        b.leave(10);
        X.refused("leave(10) twice", () -> b.leave(10));
        X.due("join after", 1, () -> b.join(30, 0));
    }

    private static void addressOfNoMemberIsNone() {
        ShardBallots b = new ShardBallots();
        b.join(50, 0);
        X.due("address(50)", 0, () -> b.address(50));
        X.due("address(49)", NONE, () -> b.address(49));
        X.due("address(51)", NONE, () -> b.address(51));
        for (int key : new int[] {LOW, -1, 100, HIGH}) {
            X.noSuch("address(" + key + ")", () -> b.address(key));
        }
        // From the shard of the range: while it is moved, and when it has moved.
        b.move(0, 2);
        X.due("address(50) in a move", 0, () -> b.address(50));
        b.change(50, 17);
        X.due("address(50) written in a move", 17, () -> b.address(50));
        b.step(0);
        X.due("address(50) after the move", 17, () -> b.address(50));
    }

    private static void inDistrictCountsByTheAddress() {
        ShardBallots b = new ShardBallots();
        int[] addresses = {0, 9, 10, 19, 20, 29, 30, 39, 35};
        for (int member = 0; member < addresses.length; member++) {
            b.join(member * 11, addresses[member]);
        }
        X.due("inDistrict(0)", 2, () -> b.inDistrict(0));
        X.due("inDistrict(1)", 2, () -> b.inDistrict(1));
        X.due("inDistrict(2)", 2, () -> b.inDistrict(2));
        X.due("inDistrict(3)", 3, () -> b.inDistrict(3));
        b.change(0, 10);
        X.due("inDistrict(0) after a change", 1, () -> b.inDistrict(0));
        X.due("inDistrict(1) after a change", 3, () -> b.inDistrict(1));
        for (int district : new int[] {LOW, -1, 4, HIGH}) {
            X.noSuch("inDistrict(" + district + ")", () -> b.inDistrict(district));
        }
    }

    private static void inDistrictCountsARowOfTwoShardsOnce() {
        ShardBallots b = new ShardBallots();
        b.join(1, 1);
        b.join(60, 2);
        b.join(61, 12);
        b.split(50);
        b.move(1, 3);
        b.step(1);
        b.step(1);
        X.due("rows(3)", 2, () -> b.rows(3));
        X.due("inDistrict(0) in a move", 2, () -> b.inDistrict(0));
        X.due("inDistrict(1) in a move", 1, () -> b.inDistrict(1));
        b.change(60, 13);
        X.due("inDistrict(0) after a change", 1, () -> b.inDistrict(0));
        X.due("inDistrict(1) after a change", 2, () -> b.inDistrict(1));
        b.step(1);
        X.due("inDistrict(0) in two shards", 1, () -> b.inDistrict(0));
        X.due("inDistrict(1) in two shards", 2, () -> b.inDistrict(1));
    }
}
