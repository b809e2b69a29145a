/** The edges that the document names in the promises 1 to 6, and what they refuse. */
public final class MemberEdgesTest {
    private static final Edges X = new Edges();
    private static final int NONE = ShardBallots.NONE;
    private static final int[] NO_KEYS = Edges.noneOf(100);
    private static final int[] NO_ADDRESSES = Edges.noneOf(40);
    private static final int[] NO_DISTRICTS = Edges.noneOf(4);
    // The members 0 to 39, each at the address that is the key.
    private static final String FORTY = Calls.each(0, 39, "join % %");
    // Of two ranges, the second is moved: the row of 60 is brought, that of 70 is not yet.
    private static final String IN_A_MOVE = "join 10 1; join 60 6; join 70 7; split 50; move 1 2; step 1";

    public static void main(String[] args) {
        aNewObject();
        joinsKey();
        joinsAddress();
        joinsMemberWithThisKey();
        joinsFortyMembers();
        joinsFirstExceptionOfSeveral();
        changesKey();
        changesAddress();
        changesMember();
        changesFirstExceptionOfSeveral();
        leavesKey();
        leavesMember();
        addressesKey();
        addressesNone();
        districtsOfTheInterface();
        districtsOfTheAddresses();
        X.end("MemberEdgesTest");
    }

    private static void aNewObject() {
        X.sentence("begins without members");
        X.allowed("", "rows 0", 0);
        X.allowed("", "inDistrict 0", 0);
        X.allowed("", "inDistrict 3", 0);
        X.allowed("", "address 0", NONE);
        X.allowed("", "address 99", NONE);
        X.refused("", "leave %", 0, 99);
        X.refused("", "change % 0", 0, 99);
        X.sentence("begins with one range in the shard 0");
        X.allowed("", "ranges", 1);
        X.allowed("", "shardOf 0", 0);
        X.allowed("", "rangeOf 0", 0);
        X.allowed("", "rangeOf 99", 0);
        X.noSuch("", "shardOf 1");
        X.refused("", "move 0 0");
        X.refused("", "step 0");
        X.refused("", "giveUp 0");
        X.refused("", "merge 0");
        X.sentence("begins without a roll and without ballots");
        X.allowed("", "onRoll 0", NONE);
        X.allowed("", "counted 0 0", 0);
        X.refused("", "close");
        X.refused("", "send 0");
        X.noSuch("", "stateOf 0");
    }

    private static void joinsKey() {
        X.sentence("join: key 0 to 99");
        X.allowed("", "join 0 20", 1);
        X.allowed("", "join 99 20", 1);
        X.allowed("join 0 20", "address 0", 20);
        X.allowed("join 99 20", "address 99", 20);
        X.noSuch("", "join % 20", NO_KEYS);
        X.noSuch(IN_A_MOVE, "join % 20", NO_KEYS);
    }

    private static void joinsAddress() {
        X.sentence("join: address 0 to 39");
        X.allowed("", "join 50 0", 1);
        X.allowed("", "join 50 39", 1);
        X.allowed("join 50 0", "address 50", 0);
        X.allowed("join 50 39", "address 50", 39);
        X.outOfRange("", "join 50 %", NO_ADDRESSES);
        X.outOfRange(IN_A_MOVE, "join 65 %", NO_ADDRESSES);
    }

    private static void joinsMemberWithThisKey() {
        X.sentence("join: if there is a member with this key");
        X.allowed("join 50 5", "join 49 5", 2);
        X.allowed("join 50 5", "join 51 5", 2);
        X.refused("join 50 5", "join 50 5");
        X.refused("join 50 5", "join 50 6");
        X.refused("join 0 0", "join 0 1");
        X.refused("join 99 39", "join 99 1");
        X.refused("join 50 5; change 50 6", "join 50 5");
        X.allowed("join 50 5; leave 50", "join 50 6", 1);
        X.refused("join 50 5; leave 50; join 50 6", "join 50 7");
        X.refused("join 50 5; fix; send 50", "join 50 6");
        X.refused(IN_A_MOVE, "join % 9", 10, 60, 70);
        X.refused(IN_A_MOVE + "; step 1; step 1", "join % 9", 10, 60, 70);
    }

    private static void joinsFortyMembers() {
        X.sentence("join: or there are 40");
        String thirtyNine = Calls.each(0, 38, "join % %");
        X.allowed(thirtyNine, "join 39 39", 40);
        X.allowed(thirtyNine, "join 99 0", 40);
        X.refused(FORTY, "join % 0", 40, 99, 0, 39);
        X.allowed(FORTY + "; leave 0", "join 99 0", 40);
        X.allowed(FORTY + "; leave 39", "join 39 0", 40);
        X.refused(FORTY + "; leave 0; join 99 0", "join 0 0");
        X.refused(FORTY + "; split 19; move 0 1; step 0", "join 99 0");
        X.sentence("change and leave: of 40 members");
        X.allowed(FORTY, "change 39 0", 39);
        X.allowed(FORTY, "leave 39", 39);
        X.allowed(FORTY + "; leave 39", "join 98 0", 40);
    }

    private static void joinsFirstExceptionOfSeveral() {
        X.sentence("join: the exception that is listed first");
        X.noSuch("join 5 5", "join -1 40");
        X.noSuch("join 5 5", "join 100 -1");
        X.noSuch(FORTY, "join 100 0");
        X.noSuch(FORTY, "join -1 40");
        X.outOfRange("join 5 5", "join 5 %", -1, 40);
        X.outOfRange(FORTY, "join 99 %", -1, 40);
        X.outOfRange(FORTY, "join 0 %", -1, 40);
    }

    private static void changesKey() {
        X.sentence("change: key 0 to 99");
        X.allowed("join 0 20", "change 0 21", 20);
        X.allowed("join 99 20", "change 99 21", 20);
        X.noSuch("join 0 20; join 99 20", "change % 21", NO_KEYS);
    }

    private static void changesAddress() {
        X.sentence("change: address 0 to 39");
        X.allowed("join 50 20", "change 50 0", 20);
        X.allowed("join 50 20", "change 50 39", 20);
        X.allowed("join 50 20; change 50 0", "address 50", 0);
        X.allowed("join 50 20; change 50 39", "address 50", 39);
        X.allowed("join 50 20", "change 50 20", 20);
        X.allowed("join 50 0", "change 50 20", 0);
        X.outOfRange("join 50 20", "change 50 %", NO_ADDRESSES);
        X.outOfRange(IN_A_MOVE, "change 60 %", NO_ADDRESSES);
        X.outOfRange(IN_A_MOVE, "change 70 %", NO_ADDRESSES);
    }

    private static void changesMember() {
        X.sentence("change: if there is no member with this key");
        X.refused("join 50 20", "change % 20", 0, 49, 51, 99);
        X.refused("join 50 20; leave 50", "change 50 20");
        X.allowed("join 50 20; leave 50; join 50 5", "change 50 6", 5);
        X.refused("join 50 20; fix; send 50; leave 50", "change 50 20");
        X.refused(IN_A_MOVE, "change 65 20");
        X.refused(IN_A_MOVE + "; leave 60", "change 60 20");
        X.refused(IN_A_MOVE + "; leave 70", "change 70 20");
    }

    private static void changesFirstExceptionOfSeveral() {
        X.sentence("change: the exception that is listed first");
        X.noSuch("join 50 20", "change -1 40");
        X.noSuch("join 50 20", "change 100 -1");
        X.outOfRange("join 50 20", "change 51 %", -1, 40);
    }

    private static void leavesKey() {
        X.sentence("leave: key 0 to 99");
        X.allowed("join 0 20", "leave 0", 20);
        X.allowed("join 99 20", "leave 99", 20);
        X.noSuch("join 0 20; join 99 20", "leave %", NO_KEYS);
    }

    private static void leavesMember() {
        X.sentence("leave: if there is no member with this key");
        X.allowed("join 50 0", "leave 50", 0);
        X.allowed("join 50 0; leave 50", "rows 0", 0);
        X.refused("join 50 20", "leave %", 0, 49, 51, 99);
        X.refused("join 50 20; leave 50", "leave 50");
        X.allowed("join 50 20; leave 50; join 50 5", "leave 50", 5);
        X.refused("join 50 20; fix; leave 50", "leave 50");
        X.refused(IN_A_MOVE, "leave 65");
        X.refused(IN_A_MOVE + "; leave 60", "leave 60");
    }

    private static void addressesKey() {
        X.sentence("address: key 0 to 99");
        X.allowed("join 0 0", "address 0", 0);
        X.allowed("join 99 39", "address 99", 39);
        X.noSuch("", "address %", NO_KEYS);
        X.noSuch("join 0 0; join 99 39", "address %", NO_KEYS);
    }

    private static void addressesNone() {
        X.sentence("address: NONE if there is no member with this key");
        X.allowed("join 50 0", "address 49", NONE);
        X.allowed("join 50 0", "address 51", NONE);
        X.allowed("join 50 0; leave 50", "address 50", NONE);
        X.allowed("join 50 0; leave 50; join 50 1", "address 50", 1);
        X.sentence("address: from the shard of the range");
        X.allowed(IN_A_MOVE, "address 60", 6);
        X.allowed(IN_A_MOVE, "address 70", 7);
        X.allowed(IN_A_MOVE + "; leave 60", "address 60", NONE);
        X.allowed(IN_A_MOVE + "; step 1; step 1", "address 70", 7);
        X.allowed(IN_A_MOVE + "; step 1; step 1; leave 70", "address 70", NONE);
        X.allowed(IN_A_MOVE + "; change 70 8; giveUp 1", "address 70", 8);
    }

    private static void districtsOfTheInterface() {
        X.sentence("inDistrict: district 0 to 3");
        X.allowed("join 50 0", "inDistrict 0", 1);
        X.allowed("join 50 39", "inDistrict 3", 1);
        X.noSuch("join 50 0; join 51 39", "inDistrict %", NO_DISTRICTS);
        X.noSuch("", "inDistrict %", NO_DISTRICTS);
    }

    private static void districtsOfTheAddresses() {
        X.sentence("the district is the address divided by 10, rounded down");
        for (int district = 0; district < 4; district++) {
            X.allowed("join 50 " + 10 * district, "inDistrict " + district, 1);
            X.allowed("join 50 " + (10 * district + 9), "inDistrict " + district, 1);
            X.allowed("join 50 " + (10 * district + 9), "inDistrict " + (district + 1) % 4, 0);
            X.allowed(FORTY, "inDistrict " + district, 10);
        }
        X.sentence("inDistrict: found by scanning all shards");
        String everywhere = "join 0 0; join 30 1; join 60 2; join 99 3; split 20; split 40; split 70; "
                + "move 0 1; step 0; step 0; move 1 2; step 1; step 1; move 3 3; step 3; step 3";
        X.allowed(everywhere, "inDistrict 0", 4);
        X.sentence("inDistrict: a row that two shards have counts once");
        X.allowed(FORTY + "; move 0 3; " + Calls.times(40, "step 0"), "inDistrict 3", 10);
        X.allowed(FORTY + "; move 0 3; " + Calls.times(41, "step 0"), "inDistrict 3", 10);
        X.allowed("join 50 9; move 0 1; step 0; change 50 10", "inDistrict 0", 0);
        X.allowed("join 50 9; move 0 1; step 0; change 50 10", "inDistrict 1", 1);
        X.allowed("join 50 9; move 0 1; step 0; leave 50", "inDistrict 0", 0);
    }
}
