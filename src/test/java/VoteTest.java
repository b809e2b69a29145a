/** Promises 16 to 23: fix, onRoll, send, sentTo, giveBack, stateOf, counted, close. */
public final class VoteTest {
    private static final Checks X = new Checks();
    private static final int NONE = ShardBallots.NONE;
    private static final int SENT = ShardBallots.SENT;
    private static final int REPLACED = ShardBallots.REPLACED;
    private static final int RETURNED = ShardBallots.RETURNED;
    private static final int LOW = Integer.MIN_VALUE, HIGH = Integer.MAX_VALUE;

    public static void main(String[] args) {
        fixLaysTheRoll();
        fixRefuses();
        onRollKeepsTheDistrictOfThen();
        onRollWithoutRollIsNone();
        sendNumbersBallots();
        sendRefuses();
        sendStopsAtSixty();
        sentToIsTheAddressOfTheSending();
        giveBackCountsInTheDistrictOfTheRoll();
        giveBackRefuses();
        stateOfFollowsTheBallot();
        countedIsOfAllVotesTogether();
        countedRefuses();
        closeCountsWhatHasNotComeBack();
        closeTakesTheRollAway();
        anotherVoteLeavesTheBallotsOfTheFirst();
        movesDoNotTouchTheVote();
        X.end("VoteTest");
    }

    private static ShardBallots withThree() {
        ShardBallots b = new ShardBallots();
        b.join(0, 5);
        b.join(50, 15);
        b.join(99, 39);
        return b;
    }

    private static void fixLaysTheRoll() {
        ShardBallots b = withThree();
        X.due("fix", 3, () -> b.fix());
        X.due("onRoll(0)", 0, () -> b.onRoll(0));
        X.due("onRoll(50)", 1, () -> b.onRoll(50));
        X.due("onRoll(99)", 3, () -> b.onRoll(99));
        X.due("onRoll(1)", NONE, () -> b.onRoll(1));
        ShardBallots empty = new ShardBallots();
        X.due("fix without members", 0, () -> empty.fix());
        X.refused("fix on an empty roll", () -> empty.fix());
        X.due("close the empty roll", 0, () -> empty.close());
    }

    private static void fixRefuses() {
        ShardBallots b = withThree();
        b.fix();
        b.change(0, 25);
        b.join(1, 1);
        X.refused("fix twice", () -> b.fix());
        X.due("onRoll(0)", 0, () -> b.onRoll(0));
        X.due("onRoll(1)", NONE, () -> b.onRoll(1));
        b.close();
        X.due("fix after close", 4, () -> b.fix());
        X.due("onRoll(0) anew", 2, () -> b.onRoll(0));
        X.due("onRoll(1) anew", 0, () -> b.onRoll(1));
    }

    private static void onRollKeepsTheDistrictOfThen() {
        ShardBallots b = withThree();
        b.fix();
        b.change(0, 39);
        b.leave(50);
        b.join(2, 20);
        X.due("onRoll(0)", 0, () -> b.onRoll(0));
        X.due("onRoll(50)", 1, () -> b.onRoll(50));
        X.due("onRoll(2)", NONE, () -> b.onRoll(2));
        b.close();
        b.fix();
        X.due("onRoll(0) anew", 3, () -> b.onRoll(0));
        X.due("onRoll(50) anew", NONE, () -> b.onRoll(50));
        X.due("onRoll(2) anew", 2, () -> b.onRoll(2));
    }

    private static void onRollWithoutRollIsNone() {
        ShardBallots b = withThree();
        X.due("onRoll(0) before", NONE, () -> b.onRoll(0));
        b.fix();
        b.close();
        X.due("onRoll(0) after", NONE, () -> b.onRoll(0));
        for (int key : new int[] {LOW, -1, 100, HIGH}) {
            X.noSuch("onRoll(" + key + ")", () -> b.onRoll(key));
        }
    }

    private static void sendNumbersBallots() {
        ShardBallots b = withThree();
        b.fix();
        X.due("send(99)", 0, () -> b.send(99));
        X.due("send(0)", 1, () -> b.send(0));
        X.due("send(0) again", 2, () -> b.send(0));
        X.due("stateOf(0)", SENT, () -> b.stateOf(0));
        X.due("stateOf(1)", REPLACED, () -> b.stateOf(1));
        X.due("stateOf(2)", SENT, () -> b.stateOf(2));
        X.due("send(0) a third time", 3, () -> b.send(0));
        X.due("stateOf(1)", REPLACED, () -> b.stateOf(1));
        X.due("stateOf(2)", REPLACED, () -> b.stateOf(2));
        X.due("stateOf(3)", SENT, () -> b.stateOf(3));
    }

    private static void sendRefuses() {
        ShardBallots b = withThree();
        X.refused("send without a roll", () -> b.send(0));
        b.fix();
        for (int key : new int[] {LOW, -1, 100, HIGH}) {
            X.noSuch("send(" + key + ")", () -> b.send(key));
        }
        b.join(1, 1);
        X.refused("send to one who is not on the roll", () -> b.send(1));
        X.refused("send to nobody", () -> b.send(2));
        b.leave(50);
        X.refused("send to one who left", () -> b.send(50));
        X.noSuch("stateOf(0)", () -> b.stateOf(0));
        b.join(50, 33);
        X.due("send to one who is back", 0, () -> b.send(50));
        b.giveBack(0, 1);
        X.refused("send when one came back", () -> b.send(50));
        X.due("stateOf(0)", RETURNED, () -> b.stateOf(0));
        b.send(0);
        b.send(0);
        b.giveBack(2, 1);
        X.refused("send when the latest came back", () -> b.send(0));
        b.leave(0);
        X.refused("send to one who left and returned it", () -> b.send(0));
        b.join(0, 5);
        X.refused("send when the latest came back, to one who is back", () -> b.send(0));
        b.close();
        X.refused("send after close", () -> b.send(99));
    }

    private static void sendStopsAtSixty() {
        ShardBallots b = withThree();
        b.fix();
        for (int ballot = 0; ballot < 30; ballot++) {
            int n = ballot;
            X.due("send(50)", n, () -> b.send(50));
        }
        b.close();
        b.fix();
        for (int ballot = 30; ballot < 60; ballot++) {
            int n = ballot;
            X.due("send(50)", n, () -> b.send(50));
        }
        X.refused("send(50) the 61st", () -> b.send(50));
        X.refused("send(0) the 61st", () -> b.send(0));
        X.noSuch("send(100)", () -> b.send(100));
        X.due("stateOf(59)", SENT, () -> b.stateOf(59));
        X.due("sentTo(59)", 15, () -> b.sentTo(59));
        X.noSuch("stateOf(60)", () -> b.stateOf(60));
        X.due("giveBack(59, 0)", 1, () -> b.giveBack(59, 0));
        X.due("counted(1, 0) of 60 ballots", 1, () -> b.counted(1, 0));
        X.due("close", 0, () -> b.close());
        b.fix();
        X.refused("send in a third vote", () -> b.send(0));
    }

    private static void sentToIsTheAddressOfTheSending() {
        ShardBallots b = withThree();
        b.fix();
        b.send(0);
        b.change(0, 22);
        b.send(0);
        b.leave(0);
        X.due("sentTo(0)", 5, () -> b.sentTo(0));
        X.due("sentTo(1)", 22, () -> b.sentTo(1));
        for (int ballot : new int[] {LOW, -1, 2, 60, HIGH}) {
            X.noSuch("sentTo(" + ballot + ")", () -> b.sentTo(ballot));
        }
        b.close();
        X.due("sentTo(1) after close", 22, () -> b.sentTo(1));
    }

    private static void giveBackCountsInTheDistrictOfTheRoll() {
        ShardBallots b = withThree();
        b.fix();
        b.change(0, 39);
        b.send(0);
        b.send(50);
        b.leave(50);
        X.due("giveBack(0, 2)", 0, () -> b.giveBack(0, 2));
        X.due("giveBack(1, 0) of one who left", 1, () -> b.giveBack(1, 0));
        X.due("counted(0, 2)", 1, () -> b.counted(0, 2));
        X.due("counted(3, 2)", 0, () -> b.counted(3, 2));
        X.due("counted(1, 0)", 1, () -> b.counted(1, 0));
    }

    private static void giveBackRefuses() {
        ShardBallots b = withThree();
        b.fix();
        b.send(0);
        b.send(0);
        b.send(50);
        for (int ballot : new int[] {LOW, -1, 3, 60, HIGH}) {
            X.noSuch("giveBack(" + ballot + ", 0)", () -> b.giveBack(ballot, 0));
            X.noSuch("giveBack(" + ballot + ", 3)", () -> b.giveBack(ballot, 3));
        }
        for (int choice : new int[] {LOW, -1, 3, HIGH}) {
            X.outOfRange("giveBack(1, " + choice + ")", () -> b.giveBack(1, choice));
            X.outOfRange("giveBack(0, " + choice + ")", () -> b.giveBack(0, choice));
        }
        X.refused("giveBack of a replaced one", () -> b.giveBack(0, 0));
        X.due("giveBack(1, 0)", 0, () -> b.giveBack(1, 0));
        X.refused("giveBack twice", () -> b.giveBack(1, 1));
        b.close();
        X.refused("giveBack after close", () -> b.giveBack(2, 1));
        b.fix();
        X.refused("giveBack in another vote", () -> b.giveBack(2, 1));
        X.due("stateOf(0)", REPLACED, () -> b.stateOf(0));
        X.due("stateOf(2)", SENT, () -> b.stateOf(2));
        X.due("counted(0, 0)", 1, () -> b.counted(0, 0));
        X.due("counted(0, 1)", 0, () -> b.counted(0, 1));
        X.due("counted(1, 1)", 0, () -> b.counted(1, 1));
    }

    private static void stateOfFollowsTheBallot() {
        ShardBallots b = withThree();
        b.fix();
        b.send(0);
        X.due("stateOf(0)", SENT, () -> b.stateOf(0));
        b.send(0);
        X.due("stateOf(0)", REPLACED, () -> b.stateOf(0));
        b.giveBack(1, 0);
        X.due("stateOf(1)", RETURNED, () -> b.stateOf(1));
        for (int ballot : new int[] {LOW, -1, 2, 60, HIGH}) {
            X.noSuch("stateOf(" + ballot + ")", () -> b.stateOf(ballot));
        }
        b.close();
        X.due("stateOf(0) after close", REPLACED, () -> b.stateOf(0));
        X.due("stateOf(1) after close", RETURNED, () -> b.stateOf(1));
    }

    private static void countedIsOfAllVotesTogether() {
        ShardBallots b = withThree();
        b.join(51, 19);
        b.fix();
        b.send(50);
        b.send(51);
        b.send(99);
        b.giveBack(0, 1);
        b.giveBack(1, 1);
        X.due("counted(1, 1)", 2, () -> b.counted(1, 1));
        b.giveBack(2, 2);
        b.close();
        X.due("counted(1, 1) after close", 2, () -> b.counted(1, 1));
        b.change(50, 0);
        b.fix();
        X.due("counted(1, 1) in another vote", 2, () -> b.counted(1, 1));
        b.send(51);
        b.giveBack(3, 1);
        b.send(50);
        b.giveBack(4, 1);
        X.due("counted(1, 1) of both votes", 3, () -> b.counted(1, 1));
        X.due("counted(0, 1)", 1, () -> b.counted(0, 1));
        X.due("counted(3, 2)", 1, () -> b.counted(3, 2));
        X.due("counted(1, 0)", 0, () -> b.counted(1, 0));
    }

    private static void countedRefuses() {
        ShardBallots b = withThree();
        for (int district : new int[] {LOW, -1, 4, HIGH}) {
            X.noSuch("counted(" + district + ", 0)", () -> b.counted(district, 0));
            X.noSuch("counted(" + district + ", 3)", () -> b.counted(district, 3));
        }
        for (int choice : new int[] {LOW, -1, 3, HIGH}) {
            X.outOfRange("counted(0, " + choice + ")", () -> b.counted(0, choice));
        }
    }

    private static void closeCountsWhatHasNotComeBack() {
        ShardBallots b = withThree();
        X.refused("close without a roll", () -> b.close());
        b.fix();
        b.send(0);
        b.send(0);
        b.send(50);
        b.send(99);
        b.giveBack(3, 0);
        b.leave(50);
        X.due("close", 2, () -> b.close());
        X.refused("close twice", () -> b.close());
        b.fix();
        b.send(0);
        X.due("close counts its own vote only", 1, () -> b.close());
        ShardBallots first = withThree();
        first.fix();
        first.send(0);
        X.due("close counts the first ballot", 1, () -> first.close());
        first.fix();
        X.due("close of a vote without ballots", 0, () -> first.close());
    }

    private static void closeTakesTheRollAway() {
        ShardBallots b = withThree();
        b.fix();
        b.send(0);
        b.close();
        X.due("onRoll(0)", NONE, () -> b.onRoll(0));
        X.refused("send(0)", () -> b.send(0));
        X.refused("giveBack(0, 0)", () -> b.giveBack(0, 0));
        X.due("stateOf(0)", SENT, () -> b.stateOf(0));
        X.due("fix anew", 3, () -> b.fix());
    }

    private static void anotherVoteLeavesTheBallotsOfTheFirst() {
        ShardBallots b = withThree();
        b.fix();
        b.send(0);
        b.send(50);
        b.giveBack(1, 0);
        b.close();
        b.fix();
        X.due("send to one whose ballot is out", 2, () -> b.send(0));
        X.due("send to one whose ballot came back", 3, () -> b.send(50));
        X.due("stateOf(0)", SENT, () -> b.stateOf(0));
        X.due("stateOf(1)", RETURNED, () -> b.stateOf(1));
        X.due("giveBack(2, 1)", 0, () -> b.giveBack(2, 1));
        X.due("close", 1, () -> b.close());
    }

    private static void movesDoNotTouchTheVote() {
        ShardBallots b = withThree();
        b.split(40);
        b.move(1, 2);
        b.step(1);
        X.due("fix in a move", 3, () -> b.fix());
        X.due("onRoll(50)", 1, () -> b.onRoll(50));
        X.due("onRoll(99)", 3, () -> b.onRoll(99));
        b.change(99, 28);
        X.due("send(99) in a move", 0, () -> b.send(99));
        X.due("sentTo(0)", 28, () -> b.sentTo(0));
        b.step(1);
        X.due("giveBack(0, 0)", 3, () -> b.giveBack(0, 0));
    }
}
