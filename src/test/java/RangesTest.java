/** Promises 7 to 15: split, merge, move, step, giveUp, ranges, rangeOf, shardOf, rows. */
public final class RangesTest {
    private static final Checks X = new Checks();
    private static final int NONE = ShardBallots.NONE;
    private static final int LOW = Integer.MIN_VALUE, HIGH = Integer.MAX_VALUE;

    public static void main(String[] args) {
        splitNumbersByRisingKeys();
        splitRefuses();
        splitStopsAtEight();
        splitAndMergeKeepTheMovesOfOthers();
        mergeJoinsWithTheNext();
        mergeRefuses();
        moveCountsRowsToBeBrought();
        moveRefuses();
        stepBringsTheLowestKeyFirst();
        stepPassesOverWhatWasWritten();
        stepBringsTheOutermostKeysOfTheRange();
        stepEndsTheMoveOfNoRows();
        stepRefuses();
        giveUpDropsTheRowsOfTheOtherShard();
        giveUpRefuses();
        writesGoToBothShards();
        twoMovesAcrossDoNotMix();
        answersOfNoSuchRangeKeyOrShard();
        X.end("RangesTest");
    }

    private static void splitNumbersByRisingKeys() {
        ShardBallots b = new ShardBallots();
        b.join(40, 4);
        b.join(41, 5);
        X.due("split(40)", 1, () -> b.split(40));
        X.due("ranges", 2, () -> b.ranges());
        X.due("rangeOf(0)", 0, () -> b.rangeOf(0));
        X.due("rangeOf(40)", 0, () -> b.rangeOf(40));
        X.due("rangeOf(41)", 1, () -> b.rangeOf(41));
        X.due("rangeOf(99)", 1, () -> b.rangeOf(99));
        X.due("split(0)", 1, () -> b.split(0));
        X.due("rangeOf(0)", 0, () -> b.rangeOf(0));
        X.due("rangeOf(1)", 1, () -> b.rangeOf(1));
        X.due("rangeOf(41)", 2, () -> b.rangeOf(41));
        X.due("split(98)", 3, () -> b.split(98));
        X.due("rangeOf(98)", 2, () -> b.rangeOf(98));
        X.due("rangeOf(99)", 3, () -> b.rangeOf(99));
        X.due("rows(0)", 2, () -> b.rows(0));
        X.due("address(40)", 4, () -> b.address(40));
        X.due("address(41)", 5, () -> b.address(41));
        b.move(2, 3);
        b.step(2);
        b.step(2);
        X.due("split in shard 3", 3, () -> b.split(50));
        X.due("shardOf(2)", 3, () -> b.shardOf(2));
        X.due("shardOf(3)", 3, () -> b.shardOf(3));
        X.due("shardOf(4)", 0, () -> b.shardOf(4));
        X.due("shardOf(1)", 0, () -> b.shardOf(1));
    }

    private static void splitRefuses() {
        ShardBallots b = new ShardBallots();
        for (int key : new int[] {LOW, -1, 100, HIGH}) {
            X.noSuch("split(" + key + ")", () -> b.split(key));
        }
        X.refused("split(99)", () -> b.split(99));
        b.split(30);
        X.refused("split(30) twice", () -> b.split(30));
        b.move(1, 2);
        X.refused("split(31) in a move", () -> b.split(31));
        X.due("ranges", 2, () -> b.ranges());
        X.due("rangeOf(32)", 1, () -> b.rangeOf(32));
        X.due("split(29) beside a move", 1, () -> b.split(29));
        b.giveUp(2);
        X.due("split(31) after the move", 3, () -> b.split(31));
    }

    private static void splitStopsAtEight() {
        ShardBallots b = new ShardBallots();
        for (int key = 0; key < 7; key++) {
            int k = key;
            X.due("split(" + k + ")", k + 1, () -> b.split(k));
        }
        X.due("ranges", 8, () -> b.ranges());
        X.refused("split(7)", () -> b.split(7));
        X.noSuch("split(100)", () -> b.split(100));
        X.due("rangeOf(7)", 7, () -> b.rangeOf(7));
        X.due("rangeOf(8)", 7, () -> b.rangeOf(8));
        X.due("merge(0)", 7, () -> b.merge(0));
        X.due("split(7) after a merge", 7, () -> b.split(7));
        X.refused("split(0) with 8 again", () -> b.split(0));
    }

    private static void splitAndMergeKeepTheMovesOfOthers() {
        ShardBallots b = new ShardBallots();
        b.join(10, 1);
        b.join(60, 6);
        b.split(50);
        b.move(1, 2);
        b.split(20);
        X.due("rangeOf(60)", 2, () -> b.rangeOf(60));
        X.refused("step(1)", () -> b.step(1));
        X.due("step(2)", 60, () -> b.step(2));
        X.due("merge(0)", 2, () -> b.merge(0));
        X.due("step(1) ends", NONE, () -> b.step(1));
        X.due("shardOf(0)", 0, () -> b.shardOf(0));
        X.due("shardOf(1)", 2, () -> b.shardOf(1));
        X.due("rows(0)", 1, () -> b.rows(0));
        X.due("rows(2)", 1, () -> b.rows(2));
    }

    private static void mergeJoinsWithTheNext() {
        ShardBallots b = new ShardBallots();
        b.join(25, 5);
        b.split(20);
        b.split(40);
        b.split(60);
        X.due("merge(1)", 3, () -> b.merge(1));
        X.due("rangeOf(20)", 0, () -> b.rangeOf(20));
        X.due("rangeOf(21)", 1, () -> b.rangeOf(21));
        X.due("rangeOf(60)", 1, () -> b.rangeOf(60));
        X.due("rangeOf(61)", 2, () -> b.rangeOf(61));
        X.due("merge(1) again", 2, () -> b.merge(1));
        X.due("rangeOf(99)", 1, () -> b.rangeOf(99));
        X.due("merge(0)", 1, () -> b.merge(0));
        X.due("rangeOf(99)", 0, () -> b.rangeOf(99));
        X.due("address(25)", 5, () -> b.address(25));
        X.due("rows(0)", 1, () -> b.rows(0));
        X.due("move all", 1, () -> b.move(0, 1));
    }

    private static void mergeRefuses() {
        ShardBallots b = new ShardBallots();
        X.refused("merge(0) of one", () -> b.merge(0));
        b.split(20);
        b.split(40);
        for (int range : new int[] {LOW, -1, 3, 8, HIGH}) {
            X.noSuch("merge(" + range + ")", () -> b.merge(range));
        }
        X.refused("merge the last", () -> b.merge(2));
        b.move(1, 3);
        X.refused("merge with a moved one", () -> b.merge(0));
        X.refused("merge of a moved one", () -> b.merge(1));
        b.step(1);
        X.refused("merge of shards 0 and 3", () -> b.merge(0));
        X.refused("merge of shards 3 and 0", () -> b.merge(1));
        X.due("ranges", 3, () -> b.ranges());
        X.due("rangeOf(40)", 1, () -> b.rangeOf(40));
        b.move(2, 3);
        X.refused("merge with one that comes", () -> b.merge(1));
        b.step(2);
        X.due("merge(1) in shard 3", 2, () -> b.merge(1));
        X.due("shardOf(1)", 3, () -> b.shardOf(1));
    }

    private static void moveCountsRowsToBeBrought() {
        ShardBallots b = new ShardBallots();
        b.join(0, 1);
        b.join(30, 1);
        b.join(31, 1);
        b.join(60, 1);
        b.join(99, 1);
        b.split(30);
        b.split(60);
        X.due("move(0, 1)", 2, () -> b.move(0, 1));
        X.due("move(1, 3)", 2, () -> b.move(1, 3));
        X.due("move(2, 2)", 1, () -> b.move(2, 2));
        X.due("rows(0)", 5, () -> b.rows(0));
        X.due("rows(1)", 0, () -> b.rows(1));
        X.due("shardOf(0)", 0, () -> b.shardOf(0));
        ShardBallots empty = new ShardBallots();
        X.due("move no rows", 0, () -> empty.move(0, 3));
    }

    private static void moveRefuses() {
        ShardBallots b = new ShardBallots();
        b.join(1, 1);
        for (int range : new int[] {LOW, -1, 1, 8, HIGH}) {
            X.noSuch("move(" + range + ", 1)", () -> b.move(range, 1));
            X.noSuch("move(" + range + ", 0)", () -> b.move(range, 0));
        }
        for (int shard : new int[] {LOW, -1, 4, HIGH}) {
            X.noSuch("move(0, " + shard + ")", () -> b.move(0, shard));
        }
        X.refused("move to its own shard", () -> b.move(0, 0));
        X.refused("step, for no move began", () -> b.step(0));
        b.move(0, 1);
        X.refused("move twice", () -> b.move(0, 2));
        X.refused("move to where it is moved", () -> b.move(0, 1));
        X.refused("move back in a move", () -> b.move(0, 0));
        X.noSuch("move to no shard in a move", () -> b.move(0, 4));
        b.step(0);
        b.step(0);
        X.due("shardOf(0)", 1, () -> b.shardOf(0));
        X.refused("move to its new shard", () -> b.move(0, 1));
        X.due("move back", 1, () -> b.move(0, 0));
    }

    private static void stepBringsTheLowestKeyFirst() {
        ShardBallots b = new ShardBallots();
        b.join(70, 7);
        b.join(50, 5);
        b.join(20, 2);
        b.join(10, 1);
        b.split(19);
        b.split(60);
        b.move(1, 2);
        X.due("step to 20", 20, () -> b.step(1));
        X.due("rows(2)", 1, () -> b.rows(2));
        X.due("rows(0)", 4, () -> b.rows(0));
        X.due("step to 50", 50, () -> b.step(1));
        X.due("shardOf(1) yet", 0, () -> b.shardOf(1));
        X.due("step to the end", NONE, () -> b.step(1));
        X.due("shardOf(1)", 2, () -> b.shardOf(1));
        X.due("rows(0) after", 2, () -> b.rows(0));
        X.due("rows(2) after", 2, () -> b.rows(2));
        X.due("address(20)", 2, () -> b.address(20));
        X.due("address(50)", 5, () -> b.address(50));
        X.due("address(10)", 1, () -> b.address(10));
        X.due("address(70)", 7, () -> b.address(70));
    }

    private static void stepPassesOverWhatWasWritten() {
        ShardBallots b = new ShardBallots();
        b.join(10, 1);
        b.join(20, 2);
        b.join(30, 3);
        b.join(40, 4);
        b.move(0, 1);
        b.change(10, 11);
        X.due("rows(1) after a change", 1, () -> b.rows(1));
        X.due("step passes over 10", 20, () -> b.step(0));
        b.join(5, 5);
        b.join(35, 6);
        X.due("rows(1) after two joins", 4, () -> b.rows(1));
        b.leave(30);
        X.due("rows(1) after one left that was not brought", 4, () -> b.rows(1));
        b.leave(20);
        X.due("rows(1) after one left that was brought", 3, () -> b.rows(1));
        X.due("step to 40", 40, () -> b.step(0));
        b.leave(40);
        b.join(40, 9);
        X.due("the end", NONE, () -> b.step(0));
        X.due("rows(1)", 4, () -> b.rows(1));
        X.due("rows(0)", 0, () -> b.rows(0));
        X.due("address(10)", 11, () -> b.address(10));
        X.due("address(5)", 5, () -> b.address(5));
        X.due("address(35)", 6, () -> b.address(35));
        X.due("address(40)", 9, () -> b.address(40));
        X.due("address(20)", NONE, () -> b.address(20));
        X.due("address(30)", NONE, () -> b.address(30));
    }

    private static void stepBringsTheOutermostKeysOfTheRange() {
        ShardBallots b = new ShardBallots();
        b.split(29);
        b.split(60);
        for (int key : new int[] {0, 29, 30, 60, 61, 99}) {
            b.join(key, 0);
        }
        for (int range = 0; range < 3; range++) {
            int r = range;
            b.move(r, r + 1);
            X.due("step to the first key of " + r, new int[] {0, 30, 61}[r], () -> b.step(r));
            X.due("step to the last key of " + r, new int[] {29, 60, 99}[r], () -> b.step(r));
            X.due("step to the end of " + r, NONE, () -> b.step(r));
            X.due("rows(" + (r + 1) + ")", 2, () -> b.rows(r + 1));
            X.due("rows(0) after " + r, 4 - 2 * r, () -> b.rows(0));
        }
    }

    private static void stepEndsTheMoveOfNoRows() {
        ShardBallots b = new ShardBallots();
        b.move(0, 3);
        X.due("step", NONE, () -> b.step(0));
        X.due("shardOf(0)", 3, () -> b.shardOf(0));
        X.refused("step after the end", () -> b.step(0));
    }

    private static void stepRefuses() {
        ShardBallots b = new ShardBallots();
        b.join(1, 1);
        b.split(50);
        b.move(0, 1);
        for (int range : new int[] {LOW, -1, 2, 8, HIGH}) {
            X.noSuch("step(" + range + ")", () -> b.step(range));
        }
        X.refused("step(1)", () -> b.step(1));
        X.due("rows(1)", 0, () -> b.rows(1));
        b.giveUp(0);
        X.refused("step after giving up", () -> b.step(0));
    }

    private static void giveUpDropsTheRowsOfTheOtherShard() {
        ShardBallots b = new ShardBallots();
        b.join(10, 1);
        b.join(20, 2);
        b.join(30, 3);
        b.join(90, 9);
        b.split(50);
        b.move(1, 1);
        b.step(1);
        b.step(1);
        b.move(0, 1);
        b.step(0);
        b.change(20, 22);
        X.due("rows(1)", 3, () -> b.rows(1));
        X.due("giveUp", 2, () -> b.giveUp(0));
        X.due("rows(1) after", 1, () -> b.rows(1));
        X.due("rows(0) after", 3, () -> b.rows(0));
        X.due("shardOf(0)", 0, () -> b.shardOf(0));
        X.due("address(20)", 22, () -> b.address(20));
        X.due("address(90)", 9, () -> b.address(90));
        X.due("move anew", 3, () -> b.move(0, 1));
        X.due("step anew", 10, () -> b.step(0));
        X.due("giveUp again", 1, () -> b.giveUp(0));
        b.move(0, 3);
        X.due("giveUp of none", 0, () -> b.giveUp(0));
    }

    private static void giveUpRefuses() {
        ShardBallots b = new ShardBallots();
        b.split(50);
        b.move(0, 1);
        for (int range : new int[] {LOW, -1, 2, 8, HIGH}) {
            X.noSuch("giveUp(" + range + ")", () -> b.giveUp(range));
        }
        X.refused("giveUp(1)", () -> b.giveUp(1));
        X.due("giveUp(0)", 0, () -> b.giveUp(0));
        X.refused("giveUp(0) twice", () -> b.giveUp(0));
    }

    private static void writesGoToBothShards() {
        ShardBallots b = new ShardBallots();
        b.split(49);
        b.join(60, 0);
        b.move(0, 2);
        b.join(0, 10);
        b.join(49, 20);
        b.join(50, 30);
        X.due("rows(0)", 4, () -> b.rows(0));
        X.due("rows(2)", 2, () -> b.rows(2));
        b.leave(0);
        X.due("rows(0) after one left", 3, () -> b.rows(0));
        X.due("rows(2) after one left", 1, () -> b.rows(2));
        b.step(0);
        X.due("shardOf(0)", 2, () -> b.shardOf(0));
        X.due("rows(0) after the move", 2, () -> b.rows(0));
        X.due("rows(2) after the move", 1, () -> b.rows(2));
        b.join(1, 1);
        X.due("rows(2) after one more", 2, () -> b.rows(2));
        X.due("rows(0) after one more", 2, () -> b.rows(0));
    }

    private static void twoMovesAcrossDoNotMix() {
        ShardBallots b = new ShardBallots();
        b.join(10, 1);
        b.join(90, 2);
        b.split(50);
        b.move(1, 1);
        b.step(1);
        b.step(1);
        b.move(0, 1);
        b.move(1, 0);
        X.due("step(1)", 90, () -> b.step(1));
        X.due("step(0)", 10, () -> b.step(0));
        X.due("rows(0)", 2, () -> b.rows(0));
        X.due("rows(1)", 2, () -> b.rows(1));
        X.due("step(0) ends", NONE, () -> b.step(0));
        X.due("rows(0) after", 1, () -> b.rows(0));
        X.due("rows(1) after", 2, () -> b.rows(1));
        X.due("step(1) ends", NONE, () -> b.step(1));
        X.due("shardOf(0)", 1, () -> b.shardOf(0));
        X.due("shardOf(1)", 0, () -> b.shardOf(1));
        X.due("address(10)", 1, () -> b.address(10));
        X.due("address(90)", 2, () -> b.address(90));
    }

    private static void answersOfNoSuchRangeKeyOrShard() {
        ShardBallots b = new ShardBallots();
        b.split(50);
        for (int range : new int[] {LOW, -1, 2, 7, 8, HIGH}) {
            X.noSuch("shardOf(" + range + ")", () -> b.shardOf(range));
        }
        for (int key : new int[] {LOW, -1, 100, HIGH}) {
            X.noSuch("rangeOf(" + key + ")", () -> b.rangeOf(key));
        }
        for (int shard : new int[] {LOW, -1, 4, HIGH}) {
            X.noSuch("rows(" + shard + ")", () -> b.rows(shard));
        }
        b.merge(0);
        X.noSuch("shardOf(1) after a merge", () -> b.shardOf(1));
    }
}
