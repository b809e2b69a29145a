/** The edges that the document names in the promises 7 to 15, and what they refuse. */
public final class RangeEdgesTest {
    private static final Edges X = new Edges();
    private static final int NONE = ShardBallots.NONE;
    private static final int[] NO_KEYS = Edges.noneOf(100);
    private static final int[] NO_SHARDS = Edges.noneOf(4);
    private static final String FORTY = Calls.each(0, 39, "join % %");
    private static final String SEVEN_RANGES = Calls.each(0, 5, "split %");
    private static final String EIGHT_RANGES = Calls.each(0, 6, "split %");
    // Ranges 0 to 39, 40 to 59 and 60 to 99, with members at the first and the last key of each.
    private static final String THREE_RANGES = "join 0 1; join 39 2; join 40 3; join 59 14; join 60 25; join 99 36; "
            + "split 39; split 59";
    private static final String MOVED = THREE_RANGES + "; move 1 2";
    private static final String HALF_MOVED = MOVED + "; step 1";
    private static final String ALL_BROUGHT = HALF_MOVED + "; step 1";
    private static final String MOVE_ENDED = ALL_BROUGHT + "; step 1";

    public static void main(String[] args) {
        splitsKey();
        splitsLastKeyOfItsRange();
        splitsMovedRange();
        splitsEightRanges();
        mergesRange();
        mergesNextOne();
        mergesShards();
        mergesMovedRanges();
        movesRange();
        movesShard();
        movesMovedAlready();
        movesIntoItsShard();
        movesRows();
        stepsRange();
        stepsNotMoved();
        stepsLowestKey();
        stepsEnd();
        stepsOfRowsWrittenSince();
        giveUpsRange();
        giveUpsNotMoved();
        giveUpsRows();
        rangesOneToEight();
        rangeOfsKey();
        shardOfsRange();
        rowsShard();
        rowsOfBothShards();
        X.end("RangeEdgesTest");
    }

    private static void splitsKey() {
        X.sentence("split: key 0 to 99");
        X.allowed("", "split 0", 1);
        X.allowed("", "split 98", 1);
        X.allowed("split 0", "rangeOf 0", 0);
        X.allowed("split 0", "rangeOf 1", 1);
        X.allowed("split 98", "rangeOf 98", 0);
        X.allowed("split 98", "rangeOf 99", 1);
        X.refused("", "split 99");
        X.noSuch("", "split %", NO_KEYS);
        X.noSuch(MOVED, "split %", NO_KEYS);
        X.noSuch(EIGHT_RANGES, "split %", NO_KEYS);
        X.sentence("split: the others are a new range in the same shard");
        X.allowed(MOVE_ENDED, "split 40", 2);
        X.allowed(MOVE_ENDED + "; split 40", "shardOf 1", 2);
        X.allowed(MOVE_ENDED + "; split 40", "shardOf 2", 2);
        X.allowed(MOVE_ENDED + "; split 40", "shardOf 3", 0);
        X.allowed(MOVE_ENDED + "; split 40", "address 59", 14);
    }

    private static void splitsLastKeyOfItsRange() {
        X.sentence("split: if it is the last key of its range");
        X.allowed(THREE_RANGES, "split 38", 1);
        X.allowed(THREE_RANGES, "split 40", 2);
        X.allowed(THREE_RANGES, "split 58", 2);
        X.allowed(THREE_RANGES, "split 60", 3);
        X.allowed(THREE_RANGES, "split 98", 3);
        X.refused(THREE_RANGES, "split %", 39, 59, 99);
        X.refused("split 49", "split 49");
        X.allowed("split 49; merge 0", "split 49", 1);
        X.sentence("split: a range of one key has its last key alone");
        X.allowed("split 1", "split 0", 1);
        X.refused("split 1; split 0", "split %", 0, 1);
        X.refused("split 98; split 97", "split %", 97, 98, 99);
    }

    private static void splitsMovedRange() {
        X.sentence("split: the range is moved");
        X.refused(MOVED, "split %", 40, 50, 58);
        X.refused(ALL_BROUGHT, "split 50");
        X.allowed(MOVED, "split 38", 1);
        X.allowed(MOVED, "split 60", 3);
        X.allowed(MOVE_ENDED, "split 50", 2);
        X.allowed(HALF_MOVED + "; giveUp 1", "split 50", 2);
        X.refused("move 0 1", "split %", 0, 50, 98, 99);
    }

    private static void splitsEightRanges() {
        X.sentence("split: or there are 8 ranges");
        X.allowed(SEVEN_RANGES, "split 6", 7);
        X.allowed(SEVEN_RANGES, "split 98", 7);
        X.refused(EIGHT_RANGES, "split %", 7, 98, 6, 99);
        X.allowed(EIGHT_RANGES + "; merge 6", "split 6", 7);
        X.allowed(EIGHT_RANGES + "; merge 0", "split 0", 1);
        X.refused(EIGHT_RANGES + "; merge 0; split 50", "split 0");
        X.refused(EIGHT_RANGES + "; move 7 1", "split 50");
    }

    private static void mergesRange() {
        X.sentence("merge: range: a range");
        X.allowed(THREE_RANGES, "merge 0", 2);
        X.allowed(THREE_RANGES, "merge 1", 2);
        X.noSuch(THREE_RANGES, "merge %", Edges.noneOf(3));
        X.noSuch(MOVED, "merge %", Edges.noneOf(3));
        X.noSuch("", "merge %", Edges.noneOf(1));
        X.noSuch(EIGHT_RANGES, "merge %", Edges.noneOf(8));
    }

    private static void mergesNextOne() {
        X.sentence("merge: if there is no next one");
        X.refused("", "merge 0");
        X.refused(THREE_RANGES, "merge 2");
        X.allowed(EIGHT_RANGES, "merge 6", 7);
        X.refused(EIGHT_RANGES, "merge 7");
        X.allowed("split 50", "merge 0", 1);
        X.refused("split 50; merge 0", "merge 0");
        X.noSuch("split 50; merge 0", "merge 1");
        X.sentence("merge: joins with the next one");
        X.allowed(THREE_RANGES + "; merge 0", "rangeOf 59", 0);
        X.allowed(THREE_RANGES + "; merge 0", "rangeOf 60", 1);
        X.allowed(THREE_RANGES + "; merge 1", "rangeOf 39", 0);
        X.allowed(THREE_RANGES + "; merge 1", "rangeOf 40", 1);
        X.allowed(THREE_RANGES + "; merge 1", "rangeOf 99", 1);
        X.allowed(THREE_RANGES + "; merge 0; merge 0", "move 0 1", 6);
    }

    private static void mergesShards() {
        X.sentence("merge: both are in different shards");
        X.refused(MOVE_ENDED, "merge %", 0, 1);
        X.allowed(MOVE_ENDED + "; move 0 2; step 0; step 0; step 0", "merge 0", 2);
        X.refused(MOVE_ENDED + "; move 0 3; step 0; step 0; step 0", "merge 0");
        X.allowed(MOVE_ENDED + "; move 2 2; step 2; step 2; step 2", "merge 1", 2);
        X.allowed(MOVE_ENDED + "; move 1 0; step 1; step 1; step 1", "merge 0", 2);
    }

    private static void mergesMovedRanges() {
        X.sentence("merge: or one of both is moved");
        X.refused(MOVED, "merge %", 0, 1);
        X.refused(ALL_BROUGHT, "merge %", 0, 1);
        X.allowed(THREE_RANGES + "; move 2 1", "merge 0", 2);
        X.allowed(THREE_RANGES + "; move 0 1", "merge 1", 2);
        X.refused(THREE_RANGES + "; move 0 1; move 1 1", "merge 0");
        X.allowed(HALF_MOVED + "; giveUp 1", "merge 0", 2);
        X.allowed(HALF_MOVED + "; giveUp 1", "merge 1", 2);
        X.sentence("merge: in different shards, and one is moved to the shard of the other");
        X.refused(MOVE_ENDED + "; move 1 0; step 1; step 1", "merge %", 0, 1);
        X.refused(MOVE_ENDED + "; move 2 2; step 2; step 2", "merge 1");
        X.sentence("merge: the move of a range behind goes on");
        X.allowed(THREE_RANGES + "; move 2 1; step 2; merge 0", "step 1", 99);
        X.allowed(THREE_RANGES + "; move 0 1; step 0; merge 1", "step 0", 39);
    }

    private static void movesRange() {
        X.sentence("move: range: a range");
        X.allowed(THREE_RANGES, "move 0 1", 2);
        X.allowed(THREE_RANGES, "move 2 1", 2);
        X.noSuch(THREE_RANGES, "move % 1", Edges.noneOf(3));
        X.noSuch(THREE_RANGES, "move % 0", Edges.noneOf(3));
        X.noSuch("", "move % 1", Edges.noneOf(1));
        X.noSuch(EIGHT_RANGES, "move % 1", Edges.noneOf(8));
        X.allowed(EIGHT_RANGES, "move 7 1", 0);
    }

    private static void movesShard() {
        X.sentence("move: shard 0 to 3");
        X.allowed(THREE_RANGES, "move 1 3", 2);
        X.allowed(THREE_RANGES, "move 1 1", 2);
        X.allowed(MOVE_ENDED, "move 1 0", 2);
        X.noSuch(THREE_RANGES, "move 1 %", NO_SHARDS);
        X.noSuch(MOVED, "move 1 %", NO_SHARDS);
        X.noSuch(MOVED, "move 3 4");
    }

    private static void movesMovedAlready() {
        X.sentence("move: if it is moved already");
        X.refused(MOVED, "move 1 %", 0, 1, 2, 3);
        X.refused(ALL_BROUGHT, "move 1 %", 0, 1, 2, 3);
        X.allowed(MOVED, "move 0 2", 2);
        X.allowed(MOVED, "move 2 3", 2);
        X.allowed(MOVE_ENDED, "move 1 3", 2);
        X.allowed(HALF_MOVED + "; giveUp 1", "move 1 2", 2);
    }

    private static void movesIntoItsShard() {
        X.sentence("move: or is in this shard");
        X.refused("", "move 0 0");
        X.refused(THREE_RANGES, "move % 0", 0, 1, 2);
        X.refused(MOVE_ENDED, "move 1 2");
        X.refused("move 0 3; step 0", "move 0 3");
        X.allowed("move 0 3; step 0", "move 0 0", 0);
        X.refused(HALF_MOVED + "; giveUp 1", "move 1 0");
    }

    private static void movesRows() {
        X.sentence("move: returns how many rows are to be brought");
        X.allowed("", "move 0 1", 0);
        X.allowed("join 0 0", "move 0 1", 1);
        X.allowed("join 0 0; leave 0", "move 0 1", 0);
        X.allowed(FORTY, "move 0 3", 40);
        X.allowed(FORTY + "; split 19", "move 0 3", 20);
        X.allowed(FORTY + "; split 39", "move 1 3", 0);
        X.sentence("move: rows to be brought when a move was given up, or when it goes back");
        X.allowed(ALL_BROUGHT + "; giveUp 1", "move 1 2", 2);
        X.allowed(ALL_BROUGHT + "; giveUp 1; move 1 2", "step 1", 40);
        X.allowed(MOVE_ENDED + "; move 1 0", "step 1", 40);
    }

    private static void stepsRange() {
        X.sentence("step: range: a range");
        X.allowed(THREE_RANGES + "; move 0 1", "step 0", 0);
        X.allowed(THREE_RANGES + "; move 2 1", "step 2", 60);
        X.noSuch(MOVED, "step %", Edges.noneOf(3));
        X.noSuch(THREE_RANGES, "step %", Edges.noneOf(3));
        X.noSuch("move 0 1", "step %", Edges.noneOf(1));
        X.noSuch(EIGHT_RANGES + "; move 7 1", "step %", Edges.noneOf(8));
    }

    private static void stepsNotMoved() {
        X.sentence("step: if it is not moved");
        X.refused("", "step 0");
        X.refused(MOVED, "step %", 0, 2);
        X.refused(MOVE_ENDED, "step %", 0, 1, 2);
        X.refused(HALF_MOVED + "; giveUp 1", "step 1");
        X.refused("move 0 1; step 0", "step 0");
    }

    private static void stepsLowestKey() {
        X.sentence("step: the lowest key of the range at which there is a member");
        X.allowed(MOVED, "step 1", 40);
        X.allowed(HALF_MOVED, "step 1", 59);
        X.allowed(MOVED + "; leave 40", "step 1", 59);
        X.allowed(HALF_MOVED + "; leave 40", "step 1", 59);
        X.allowed(THREE_RANGES + "; move 0 3; step 0", "step 0", 39);
        X.allowed(THREE_RANGES + "; move 2 3; step 2", "step 2", 99);
        X.sentence("step: is brought, as it is then");
        X.allowed(MOVED + "; change 40 30; step 1; step 1", "address 40", 30);
        X.allowed(HALF_MOVED + "; change 40 30; step 1; step 1", "address 40", 30);
        X.allowed(MOVED + "; leave 40; join 40 31; step 1; step 1", "address 40", 31);
    }

    private static void stepsEnd() {
        X.sentence("step: NONE if the move ends by it");
        X.allowed("move 0 1", "step 0", NONE);
        X.allowed("join 50 0; move 0 1; leave 50", "step 0", NONE);
        X.allowed("join 50 0; move 0 1; step 0; leave 50", "step 0", NONE);
        X.allowed(FORTY + "; move 0 1; " + Calls.times(39, "step 0"), "step 0", 39);
        X.allowed(FORTY + "; move 0 1; " + Calls.times(40, "step 0"), "step 0", NONE);
        X.refused(FORTY + "; move 0 1; " + Calls.times(41, "step 0"), "step 0");
        X.allowed(ALL_BROUGHT, "shardOf 1", 0);
        X.allowed(ALL_BROUGHT, "rows 0", 6);
        X.allowed(ALL_BROUGHT, "step 1", NONE);
        X.sentence("step: the range has the other shard, and the first one has no rows of it any more");
        X.allowed(MOVE_ENDED, "shardOf 1", 2);
        X.allowed(MOVE_ENDED, "rows 0", 4);
        X.allowed(MOVE_ENDED, "rows 2", 2);
        X.allowed(MOVE_ENDED, "address 39", 2);
        X.allowed(MOVE_ENDED, "address 40", 3);
        X.allowed(MOVE_ENDED, "address 59", 14);
        X.allowed(MOVE_ENDED, "address 60", 25);
    }

    private static void stepsOfRowsWrittenSince() {
        X.sentence("step: rows that were written since the move began are brought by that, too");
        X.allowed(MOVED + "; change 40 0", "step 1", 59);
        X.allowed(MOVED + "; change 40 3", "step 1", 59);
        X.allowed(MOVED + "; join 41 0", "step 1", 40);
        X.allowed(HALF_MOVED + "; join 41 0", "step 1", 59);
        X.allowed(MOVED + "; leave 40; join 40 0", "step 1", 59);
        X.allowed(MOVED + "; change 40 0; change 59 0", "step 1", NONE);
        X.allowed("move 0 1; join 50 0", "step 0", NONE);
        X.allowed("move 0 1; join 50 0; step 0", "address 50", 0);
        X.sentence("step: rows that were written before the move began, or in another range, are not");
        X.allowed(THREE_RANGES + "; change 40 0; move 1 2", "step 1", 40);
        X.allowed(MOVED + "; change 39 0; change 60 0", "step 1", 40);
        X.allowed(MOVED + "; change 39 0; change 60 0", "rows 2", 0);
    }

    private static void giveUpsRange() {
        X.sentence("giveUp: range: a range");
        X.allowed(THREE_RANGES + "; move 0 1", "giveUp 0", 0);
        X.allowed(THREE_RANGES + "; move 2 1", "giveUp 2", 0);
        X.noSuch(MOVED, "giveUp %", Edges.noneOf(3));
        X.noSuch(THREE_RANGES, "giveUp %", Edges.noneOf(3));
        X.noSuch("move 0 1", "giveUp %", Edges.noneOf(1));
        X.noSuch(EIGHT_RANGES + "; move 7 1", "giveUp %", Edges.noneOf(8));
    }

    private static void giveUpsNotMoved() {
        X.sentence("giveUp: if it is not moved");
        X.refused("", "giveUp 0");
        X.refused(HALF_MOVED, "giveUp %", 0, 2);
        X.refused(MOVE_ENDED, "giveUp %", 0, 1, 2);
        X.refused(HALF_MOVED + "; giveUp 1", "giveUp 1");
        X.allowed(HALF_MOVED + "; giveUp 1; move 1 2; step 1", "giveUp 1", 1);
    }

    private static void giveUpsRows() {
        X.sentence("giveUp: returns how many rows the other shard had of it");
        X.allowed(MOVED, "giveUp 1", 0);
        X.allowed(HALF_MOVED, "giveUp 1", 1);
        X.allowed(ALL_BROUGHT, "giveUp 1", 2);
        X.allowed(ALL_BROUGHT + "; leave 59", "giveUp 1", 1);
        X.allowed(MOVED + "; join 41 0; change 40 0", "giveUp 1", 2);
        X.allowed(FORTY + "; move 0 1; " + Calls.times(40, "step 0"), "giveUp 0", 40);
        X.sentence("giveUp: rows that the other shard has of another range");
        X.allowed(MOVE_ENDED + "; move 0 2; step 0", "giveUp 0", 1);
        X.allowed(MOVE_ENDED + "; move 0 2; step 0; giveUp 0", "rows 2", 2);
        X.sentence("giveUp: the other shard has no rows of the range any more");
        X.allowed(ALL_BROUGHT + "; giveUp 1", "rows 2", 0);
        X.allowed(ALL_BROUGHT + "; giveUp 1", "rows 0", 6);
        X.allowed(ALL_BROUGHT + "; giveUp 1", "shardOf 1", 0);
        X.allowed(ALL_BROUGHT + "; giveUp 1; change 40 9", "rows 2", 0);
    }

    private static void rangesOneToEight() {
        X.sentence("ranges: at first there is one, and at most 8");
        X.allowed("", "ranges", 1);
        X.allowed("split 50", "ranges", 2);
        X.allowed("split 50; merge 0", "ranges", 1);
        X.allowed(SEVEN_RANGES, "ranges", 7);
        X.allowed(EIGHT_RANGES, "ranges", 8);
        X.allowed(MOVED, "ranges", 3);
        X.allowed(MOVE_ENDED, "ranges", 3);
    }

    private static void rangeOfsKey() {
        X.sentence("rangeOf: key 0 to 99");
        X.allowed(THREE_RANGES, "rangeOf 0", 0);
        X.allowed(THREE_RANGES, "rangeOf 99", 2);
        X.noSuch("", "rangeOf %", NO_KEYS);
        X.noSuch(EIGHT_RANGES, "rangeOf %", NO_KEYS);
        X.sentence("rangeOf: from one key to another one, both included");
        X.allowed(THREE_RANGES, "rangeOf 39", 0);
        X.allowed(THREE_RANGES, "rangeOf 40", 1);
        X.allowed(THREE_RANGES, "rangeOf 59", 1);
        X.allowed(THREE_RANGES, "rangeOf 60", 2);
        for (int key = 0; key < 7; key++) {
            X.allowed(EIGHT_RANGES, "rangeOf " + key, key);
        }
        X.allowed(EIGHT_RANGES, "rangeOf 7", 7);
        X.allowed(EIGHT_RANGES, "rangeOf 99", 7);
    }

    private static void shardOfsRange() {
        X.sentence("shardOf: range: a range");
        X.allowed(MOVE_ENDED, "shardOf 0", 0);
        X.allowed(MOVE_ENDED, "shardOf 2", 0);
        X.noSuch("", "shardOf %", Edges.noneOf(1));
        X.noSuch(MOVE_ENDED, "shardOf %", Edges.noneOf(3));
        X.noSuch(EIGHT_RANGES, "shardOf %", Edges.noneOf(8));
        X.allowed(EIGHT_RANGES, "shardOf 7", 0);
        X.noSuch("split 50; merge 0", "shardOf 1");
        X.noSuch(EIGHT_RANGES + "; merge 0", "shardOf 7");
        X.sentence("shardOf: until the move has ended");
        X.allowed("move 0 3", "shardOf 0", 0);
        X.allowed("move 0 3; giveUp 0", "shardOf 0", 0);
        X.allowed("move 0 3; step 0", "shardOf 0", 3);
    }

    private static void rowsShard() {
        X.sentence("rows: shard 0 to 3");
        X.allowed("join 50 5", "rows 0", 1);
        X.allowed("join 50 5; move 0 3; step 0", "rows 3", 1);
        X.noSuch("", "rows %", NO_SHARDS);
        X.noSuch(HALF_MOVED, "rows %", NO_SHARDS);
    }

    private static void rowsOfBothShards() {
        X.sentence("rows: none, and those of 40 members");
        X.allowed("", "rows 0", 0);
        X.allowed(FORTY, "rows 0", 40);
        X.allowed(FORTY + "; leave 39", "rows 0", 39);
        X.sentence("rows: both shards have those that were brought");
        String brought = FORTY + "; move 0 1; " + Calls.times(40, "step 0");
        X.allowed(brought, "rows 0", 40);
        X.allowed(brought, "rows 1", 40);
        X.allowed(brought + "; step 0", "rows 0", 0);
        X.allowed(brought + "; step 0", "rows 1", 40);
        X.sentence("rows: each write is done in both shards");
        X.allowed(HALF_MOVED + "; join 41 1", "rows 0", 7);
        X.allowed(HALF_MOVED + "; join 41 1", "rows 2", 2);
        X.allowed(HALF_MOVED + "; leave 40", "rows 0", 5);
        X.allowed(HALF_MOVED + "; leave 40", "rows 2", 0);
        X.allowed(HALF_MOVED + "; leave 59", "rows 2", 1);
        X.allowed(HALF_MOVED + "; change 59 9", "rows 2", 2);
        X.allowed(HALF_MOVED + "; join 38 1", "rows 2", 1);
    }
}
