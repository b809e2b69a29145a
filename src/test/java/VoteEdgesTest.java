/** The edges that the document names in the promises 16 to 23, and what they refuse. */
public final class VoteEdgesTest {
    private static final Edges X = new Edges();
    private static final int NONE = ShardBallots.NONE;
    private static final int SENT = ShardBallots.SENT;
    private static final int REPLACED = ShardBallots.REPLACED;
    private static final int RETURNED = ShardBallots.RETURNED;
    private static final int[] NO_KEYS = Edges.noneOf(100);
    private static final int[] NO_DISTRICTS = Edges.noneOf(4);
    private static final int[] NO_CHOICES = Edges.noneOf(3);
    private static final String FORTY = Calls.each(0, 39, "join % %");
    private static final String THREE = "join 0 5; join 50 15; join 99 39";
    private static final String FIXED = THREE + "; fix";
    // The ballot 0 is replaced, 1 is returned, 2 and 3 are out.
    private static final String BALLOTS = FIXED + "; send 0; send 0; giveBack 1 1; send 50; send 99";
    private static final String CLOSED = BALLOTS + "; close";
    private static final String FIFTY_NINE = FIXED + "; " + Calls.times(59, "send 50");
    private static final String SIXTY = FIFTY_NINE + "; send 50";

    public static void main(String[] args) {
        fixesRollThatIsLaid();
        fixesMembers();
        onRollsKey();
        onRollsNone();
        onRollsDistrict();
        sendsKey();
        sendsKeyOnARollThatIsLaid();
        sendsMemberWithItAnyMore();
        sendsLatestBallotReturned();
        sendsSixtyBallots();
        sendsReplacing();
        sentTosBallot();
        sentTosAddress();
        giveBacksBallot();
        giveBacksChoice();
        giveBacksReplacedOrReturned();
        giveBacksVoteClosed();
        giveBacksDistrict();
        stateOfsBallot();
        stateOfsStates();
        countedsDistrict();
        countedsChoice();
        countedsBallots();
        closesRollLaid();
        closesBallots();
        the512thCallAnswers();
        X.end("VoteEdgesTest");
    }

    private static void fixesRollThatIsLaid() {
        X.sentence("fix: if a roll is laid");
        X.allowed(THREE, "fix", 3);
        X.refused(FIXED, "fix");
        X.refused(BALLOTS, "fix");
        X.refused(FIXED + "; join 1 1; change 0 39; leave 50", "fix");
        X.refused("fix", "fix");
        X.allowed(CLOSED, "fix", 3);
        X.refused(CLOSED + "; fix", "fix");
        X.allowed("fix; close", "fix", 0);
    }

    private static void fixesMembers() {
        X.sentence("fix: returns how many members are on it");
        X.allowed("", "fix", 0);
        X.allowed("join 50 5", "fix", 1);
        X.allowed("join 50 5; leave 50", "fix", 0);
        X.allowed(FORTY, "fix", 40);
        X.allowed(FORTY + "; leave 0", "fix", 39);
        X.allowed(FORTY + "; move 0 1; " + Calls.times(20, "step 0"), "fix", 40);
        X.allowed(FORTY + "; fix; close; leave 0; leave 1", "fix", 38);
    }

    private static void onRollsKey() {
        X.sentence("onRoll: key 0 to 99");
        X.allowed(FIXED, "onRoll 0", 0);
        X.allowed(FIXED, "onRoll 99", 3);
        X.noSuch("", "onRoll %", NO_KEYS);
        X.noSuch(FIXED, "onRoll %", NO_KEYS);
        X.noSuch(CLOSED, "onRoll %", NO_KEYS);
    }

    private static void onRollsNone() {
        X.sentence("onRoll: NONE if no roll is laid");
        X.allowed(THREE, "onRoll 0", NONE);
        X.allowed(CLOSED, "onRoll 0", NONE);
        X.allowed(CLOSED + "; fix", "onRoll 0", 0);
        X.sentence("onRoll: or it does not have this key");
        X.allowed(FIXED, "onRoll 49", NONE);
        X.allowed(FIXED, "onRoll 51", NONE);
        X.allowed(FIXED + "; join 51 5", "onRoll 51", NONE);
        X.allowed("join 51 5; leave 51; fix", "onRoll 51", NONE);
        X.allowed(CLOSED + "; leave 0; fix", "onRoll 0", NONE);
        X.allowed("fix; join 0 5", "onRoll 0", NONE);
    }

    private static void onRollsDistrict() {
        X.sentence("onRoll: the district of then");
        for (int district = 0; district < 4; district++) {
            X.allowed("join 50 " + 10 * district + "; fix", "onRoll 50", district);
            X.allowed("join 50 " + (10 * district + 9) + "; fix", "onRoll 50", district);
        }
        X.allowed("join 50 9; fix; change 50 10", "onRoll 50", 0);
        X.allowed("join 50 9; change 50 10; fix", "onRoll 50", 1);
        X.allowed("join 50 9; fix; close; change 50 10; fix", "onRoll 50", 1);
        X.sentence("onRoll: who leaves the directory stays on the roll");
        X.allowed("join 50 9; fix; leave 50", "onRoll 50", 0);
        X.allowed("join 50 9; fix; leave 50; join 50 39", "onRoll 50", 0);
    }

    private static void sendsKey() {
        X.sentence("send: key 0 to 99");
        X.allowed(FIXED, "send 0", 0);
        X.allowed(FIXED, "send 99", 0);
        X.noSuch(FIXED, "send %", NO_KEYS);
        X.noSuch(BALLOTS, "send %", NO_KEYS);
        X.noSuch("", "send %", NO_KEYS);
        X.noSuch(SIXTY, "send %", NO_KEYS);
    }

    private static void sendsKeyOnARollThatIsLaid() {
        X.sentence("send: if the key is not on a roll that is laid");
        X.refused(THREE, "send %", 0, 50, 99);
        X.refused("", "send 0");
        X.refused(FIXED, "send %", 1, 49, 51, 98);
        X.refused(FIXED + "; join 51 15", "send 51");
        X.refused(CLOSED, "send %", 0, 50, 99);
        X.allowed(CLOSED + "; fix", "send 50", 4);
        X.allowed(FIXED + "; join 51 15; close; fix", "send 51", 0);
        X.refused(CLOSED + "; leave 50; fix; join 50 15", "send 50");
    }

    private static void sendsMemberWithItAnyMore() {
        X.sentence("send: there is no member with it any more");
        X.refused(FIXED + "; leave 50", "send 50");
        X.refused(BALLOTS + "; leave 50", "send 50");
        X.allowed(FIXED + "; leave 50", "send 99", 0);
        X.allowed(FIXED + "; leave 50; join 50 35", "send 50", 0);
        X.refused(FIXED + "; leave 50; join 50 35; leave 50", "send 50");
        X.sentence("send: of the moment of the call, so one who is back is sent another one of this roll");
        X.allowed(BALLOTS + "; leave 50; join 50 35", "send 50", 4);
        X.allowed(BALLOTS + "; leave 50; join 50 35; send 50", "stateOf 2", REPLACED);
        X.allowed(BALLOTS + "; leave 50; join 50 35; send 50", "sentTo 4", 35);
        X.allowed(BALLOTS + "; leave 50; join 50 35; send 50", "giveBack 4 0", 1);
    }

    private static void sendsLatestBallotReturned() {
        X.sentence("send: the latest ballot of this roll to it was returned");
        X.allowed(FIXED + "; send 50", "send 50", 1);
        X.refused(FIXED + "; send 50; giveBack 0 0", "send 50");
        X.refused(BALLOTS, "send 0");
        X.allowed(BALLOTS, "send 50", 4);
        X.refused(BALLOTS + "; change 0 6", "send 0");
        X.refused(BALLOTS + "; leave 0; join 0 6", "send 0");
        X.sentence("send: the latest ballot of an earlier roll was returned");
        X.allowed(CLOSED + "; fix", "send 0", 4);
        X.allowed(CLOSED + "; fix; send 0", "send 0", 5);
        X.refused(CLOSED + "; fix; send 0; giveBack 4 0", "send 0");
    }

    private static void sendsSixtyBallots() {
        X.sentence("send: or there are 60 ballots");
        X.allowed(FIFTY_NINE, "send 50", 59);
        X.allowed(FIFTY_NINE, "send 0", 59);
        X.refused(SIXTY, "send %", 50, 0, 99);
        X.refused(SIXTY + "; giveBack 59 0", "send %", 50, 0);
        X.allowed(FIFTY_NINE + "; close; fix", "send 50", 59);
        X.refused(FIFTY_NINE + "; close; fix; send 0", "send %", 0, 50);
        X.refused(SIXTY + "; close; fix", "send %", 0, 50);
    }

    private static void sendsReplacing() {
        X.sentence("send: takes the place of the earlier one");
        X.allowed(FIXED + "; send 50; send 50", "stateOf 0", REPLACED);
        X.allowed(FIXED + "; send 50; send 50", "stateOf 1", SENT);
        X.allowed(FIXED + "; send 50; send 99", "stateOf 0", SENT);
        X.allowed(SIXTY, "stateOf 58", REPLACED);
        X.allowed(SIXTY, "stateOf 59", SENT);
        X.sentence("send: one of a vote that is closed");
        X.allowed(CLOSED + "; fix; send 50", "stateOf 2", SENT);
        X.allowed(CLOSED + "; fix; send 0", "stateOf 1", RETURNED);
        X.allowed(CLOSED + "; fix; send 50; send 50", "stateOf 2", SENT);
        X.allowed(CLOSED + "; fix; send 50; giveBack 4 0", "stateOf 2", SENT);
    }

    private static void sentTosBallot() {
        X.sentence("sentTo: ballot: a ballot");
        X.allowed(BALLOTS, "sentTo 0", 5);
        X.allowed(BALLOTS, "sentTo 3", 39);
        X.noSuch(BALLOTS, "sentTo %", Edges.noneOf(4));
        X.noSuch(CLOSED, "sentTo %", Edges.noneOf(4));
        X.noSuch("", "sentTo %", Edges.noneOf(0));
        X.noSuch(FIXED, "sentTo 0");
        X.allowed(SIXTY, "sentTo 59", 15);
        X.noSuch(SIXTY, "sentTo %", Edges.noneOf(60));
    }

    private static void sentTosAddress() {
        X.sentence("sentTo: the address that the member has when it is sent");
        X.allowed("join 50 0; fix; send 50", "sentTo 0", 0);
        X.allowed("join 50 39; fix; send 50", "sentTo 0", 39);
        X.allowed("join 50 0; fix; change 50 39; send 50", "sentTo 0", 39);
        X.allowed("join 50 0; fix; send 50; change 50 39", "sentTo 0", 0);
        X.allowed("join 50 0; fix; send 50; change 50 39; send 50", "sentTo 0", 0);
        X.allowed("join 50 0; fix; send 50; leave 50; close", "sentTo 0", 0);
        X.allowed("join 50 0; fix; leave 50; join 50 39; send 50", "sentTo 0", 39);
    }

    private static void giveBacksBallot() {
        X.sentence("giveBack: ballot: a ballot");
        X.allowed(FIXED + "; send 50", "giveBack 0 0", 1);
        X.allowed(BALLOTS, "giveBack 3 0", 3);
        X.noSuch(BALLOTS, "giveBack % 0", Edges.noneOf(4));
        X.noSuch(CLOSED, "giveBack % 0", Edges.noneOf(4));
        X.noSuch("", "giveBack % 0", Edges.noneOf(0));
        X.allowed(SIXTY, "giveBack 59 0", 1);
        X.noSuch(SIXTY, "giveBack % 0", Edges.noneOf(60));
        X.sentence("giveBack: the exception that is listed first");
        X.noSuch(BALLOTS, "giveBack 4 %", -1, 3);
        X.noSuch("", "giveBack 0 3");
    }

    private static void giveBacksChoice() {
        X.sentence("giveBack: choice 0 to 2");
        X.allowed(BALLOTS, "giveBack 2 0", 1);
        X.allowed(BALLOTS, "giveBack 2 2", 1);
        X.outOfRange(BALLOTS, "giveBack 2 %", NO_CHOICES);
        X.sentence("giveBack: the exception that is listed first");
        X.outOfRange(BALLOTS, "giveBack 0 %", -1, 3);
        X.outOfRange(BALLOTS, "giveBack 1 %", -1, 3);
        X.outOfRange(CLOSED, "giveBack 2 %", -1, 3);
    }

    private static void giveBacksReplacedOrReturned() {
        X.sentence("giveBack: if it is REPLACED");
        X.refused(BALLOTS, "giveBack 0 %", 0, 1, 2);
        X.refused(FIXED + "; send 50; send 50", "giveBack 0 0");
        X.allowed(FIXED + "; send 50; send 50", "giveBack 1 0", 1);
        X.refused(SIXTY, "giveBack 58 0");
        X.sentence("giveBack: or RETURNED");
        X.refused(BALLOTS, "giveBack 1 %", 0, 1, 2);
        X.refused(FIXED + "; send 50; giveBack 0 0", "giveBack 0 %", 0, 1);
    }

    private static void giveBacksVoteClosed() {
        X.sentence("giveBack: or its vote is closed");
        X.refused(CLOSED, "giveBack % 0", 0, 1, 2, 3);
        X.refused(CLOSED + "; fix", "giveBack % 0", 0, 1, 2, 3);
        X.refused(CLOSED + "; fix; send 50", "giveBack 2 0");
        X.allowed(CLOSED + "; fix; send 50", "giveBack 4 0", 1);
        X.refused(CLOSED + "; fix; send 50; close", "giveBack % 0", 2, 4);
    }

    private static void giveBacksDistrict() {
        X.sentence("giveBack: the district in which it counts is that of the roll");
        X.allowed("join 50 9; fix; send 50", "giveBack 0 0", 0);
        X.allowed("join 50 10; fix; send 50", "giveBack 0 0", 1);
        X.allowed("join 50 39; fix; send 50", "giveBack 0 0", 3);
        X.allowed("join 50 9; fix; change 50 39; send 50", "giveBack 0 0", 0);
        X.allowed("join 50 9; fix; send 50; change 50 39", "giveBack 0 0", 0);
        X.allowed("join 50 9; fix; close; change 50 39; fix; send 50", "giveBack 0 0", 3);
        X.sentence("giveBack: of one who left");
        X.allowed("join 50 9; fix; send 50; leave 50", "giveBack 0 0", 0);
        X.allowed("join 50 9; fix; send 50; leave 50; join 50 39", "giveBack 0 0", 0);
    }

    private static void stateOfsBallot() {
        X.sentence("stateOf: ballot: a ballot");
        X.allowed(BALLOTS, "stateOf 0", REPLACED);
        X.allowed(BALLOTS, "stateOf 3", SENT);
        X.noSuch(BALLOTS, "stateOf %", Edges.noneOf(4));
        X.noSuch(CLOSED, "stateOf %", Edges.noneOf(4));
        X.noSuch("", "stateOf %", Edges.noneOf(0));
        X.noSuch(FIXED, "stateOf 0");
        X.allowed(SIXTY, "stateOf 59", SENT);
        X.noSuch(SIXTY, "stateOf %", Edges.noneOf(60));
    }

    private static void stateOfsStates() {
        X.sentence("stateOf: SENT, REPLACED or RETURNED");
        X.allowed(FIXED + "; send 50", "stateOf 0", SENT);
        X.allowed(FIXED + "; send 50; send 50", "stateOf 0", REPLACED);
        X.allowed(FIXED + "; send 50; giveBack 0 0", "stateOf 0", RETURNED);
        X.allowed(FIXED + "; send 50; send 50; giveBack 1 0", "stateOf 0", REPLACED);
        X.allowed(FIXED + "; send 50; leave 50", "stateOf 0", SENT);
        X.sentence("stateOf: when the vote is closed");
        X.allowed(CLOSED, "stateOf 0", REPLACED);
        X.allowed(CLOSED, "stateOf 1", RETURNED);
        X.allowed(CLOSED, "stateOf 2", SENT);
    }

    private static void countedsDistrict() {
        X.sentence("counted: district 0 to 3");
        X.allowed(BALLOTS, "counted 0 1", 1);
        X.allowed(BALLOTS + "; giveBack 3 1", "counted 3 1", 1);
        X.noSuch("", "counted % 0", NO_DISTRICTS);
        X.noSuch(BALLOTS, "counted % 0", NO_DISTRICTS);
        X.sentence("counted: the exception that is listed first");
        X.noSuch(BALLOTS, "counted % 3", -1, 4);
        X.noSuch(BALLOTS, "counted % -1", -1, 4);
    }

    private static void countedsChoice() {
        X.sentence("counted: choice 0 to 2");
        X.allowed(BALLOTS + "; giveBack 2 0", "counted 1 0", 1);
        X.allowed(BALLOTS + "; giveBack 2 2", "counted 1 2", 1);
        X.outOfRange("", "counted 0 %", NO_CHOICES);
        X.outOfRange(BALLOTS, "counted 3 %", NO_CHOICES);
    }

    private static void countedsBallots() {
        X.sentence("counted: a ballot counts if it was returned");
        X.allowed("", "counted 0 0", 0);
        X.allowed(FIXED + "; send 50", "counted 1 0", 0);
        X.allowed(FIXED + "; send 50; send 50", "counted 1 0", 0);
        X.allowed(FIXED + "; send 50; send 50; giveBack 1 0", "counted 1 0", 1);
        X.allowed(FIXED + "; send 50; giveBack 0 0", "counted 1 1", 0);
        X.allowed(FIXED + "; send 50; giveBack 0 0; leave 50", "counted 1 0", 1);
        X.sentence("counted: in all votes together; what was counted stays");
        X.allowed(CLOSED, "counted 0 1", 1);
        X.allowed(CLOSED + "; fix", "counted 0 1", 1);
        X.allowed(CLOSED + "; fix; send 0; giveBack 4 1", "counted 0 1", 2);
        X.allowed(CLOSED + "; change 0 39; fix; send 0; giveBack 4 1", "counted 0 1", 1);
        X.sentence("counted: of 60 ballots");
        String forty = FORTY + "; fix; " + Calls.each(0, 39, "send %") + "; " + Calls.each(0, 39, "giveBack % 0");
        X.allowed(forty, "counted 0 0", 10);
        X.allowed(forty, "counted 3 0", 10);
        X.allowed(forty + "; close; fix; " + Calls.each(0, 19, "send %") + "; " + Calls.each(40, 59, "giveBack % 0"),
                "counted 1 0", 20);
    }

    private static void closesRollLaid() {
        X.sentence("close: if no roll is laid");
        X.allowed("fix", "close", 0);
        X.refused("", "close");
        X.refused(THREE, "close");
        X.refused("fix; close", "close");
        X.refused(CLOSED, "close");
        X.allowed(CLOSED + "; fix", "close", 0);
    }

    private static void closesBallots() {
        X.sentence("close: how many ballots of it have not come back");
        X.allowed(FIXED, "close", 0);
        X.allowed(FIXED + "; send 50", "close", 1);
        X.allowed(FIXED + "; send 50; leave 50", "close", 1);
        X.allowed(FIXED + "; send 50; giveBack 0 0", "close", 0);
        X.allowed(BALLOTS, "close", 2);
        X.allowed(FORTY + "; fix; " + Calls.each(0, 39, "send %"), "close", 40);
        X.sentence("close: those that were replaced not counted");
        X.allowed(FIXED + "; send 50; send 50", "close", 1);
        X.allowed(FIXED + "; send 50; send 50; giveBack 1 0", "close", 0);
        X.allowed(SIXTY, "close", 1);
        X.allowed(SIXTY + "; giveBack 59 0", "close", 0);
        X.sentence("close: of it, not of an earlier vote");
        X.allowed(CLOSED + "; fix", "close", 0);
        X.allowed(CLOSED + "; fix; send 50", "close", 1);
    }

    private static void the512thCallAnswers() {
        X.sentence("an object is used for at most 512 calls");
        X.allowed(Calls.times(255, "fix; close") + "; fix", "close", 0);
        X.allowed(Calls.times(255, "join 50 5; leave 50") + "; join 50 6", "leave 50", 6);
        X.allowed(Calls.times(255, "split 50; merge 0") + "; split 50", "merge 0", 1);
        X.allowed(Calls.times(255, "move 0 1; giveUp 0") + "; move 0 1", "step 0", NONE);
        X.allowed(Calls.times(127, "move 0 1; step 0; move 0 0; step 0") + "; move 0 3; step 0; move 0 2", "step 0", NONE);
        X.allowed(FIXED + "; send 50; change 50 0; " + Calls.times(252, "change 50 38; change 50 39") + "; change 50 7",
                "sentTo 0", 15);
    }
}
