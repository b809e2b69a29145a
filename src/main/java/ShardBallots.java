import java.util.Arrays;

/**
 * A members' directory in shards: members by key in ranges that are split,
 * joined and moved while writes go on, districts by the address on a fixed
 * day, and postal ballots that are sent, returned and replaced, of which one
 * counts.
 */
public final class ShardBallots {
    /** There is none. */
    public static final int NONE = -1;

    /** States of ballots. */
    public static final int SENT = 0, REPLACED = 1, RETURNED = 2;

    private static final int KEYS = 100;
    private static final int ADDRESSES = 40;
    private static final int ADDRESSES_PER_DISTRICT = 10;
    private static final int DISTRICTS = 4;
    private static final int SHARDS = 4;
    private static final int CHOICES = 3;
    private static final int MOST_MEMBERS = 40;
    private static final int MOST_RANGES = 8;
    private static final int MOST_BALLOTS = 60;

    // The address in each row, or NONE where there is no row: shard 0's keys
    // first, then shard 1's, and so on. Every shard has its own rows, so that
    // a move needs no mark of what was brought: the other shard has the row.
    private final int[] rowTable = new int[SHARDS * KEYS];
    private int memberCount;

    // Ranges by number. A range begins behind the last key of the one before,
    // so its last key is enough; the target is NONE unless it is moved.
    private final int[] lastKeys = new int[MOST_RANGES];
    private final int[] homes = new int[MOST_RANGES];
    private final int[] targets = new int[MOST_RANGES];
    private int rangeCount;

    // The district of each key on the roll, or NONE; of no meaning unless a
    // roll is laid.
    private final int[] roll = new int[KEYS];
    private boolean rollLaid;
    private int voteNumber;

    // Ballots by number. The district is kept from the roll, for the roll is
    // gone when a later vote asks what was counted.
    private final int[] ballotKeys = new int[MOST_BALLOTS];
    private final int[] ballotVotes = new int[MOST_BALLOTS];
    private final int[] ballotAddresses = new int[MOST_BALLOTS];
    private final int[] ballotDistricts = new int[MOST_BALLOTS];
    private final int[] ballotStates = new int[MOST_BALLOTS];
    private final int[] ballotChoices = new int[MOST_BALLOTS];
    private int ballotCount;

    /** Begins without members, with one range in the shard 0. */
    public ShardBallots() {
        Arrays.fill(rowTable, NONE);
        Arrays.fill(targets, NONE);
        lastKeys[0] = KEYS - 1;
        rangeCount = 1;
    }

    // ---- members

    /** Lets a member join; returns how many members there are then. */
    public int join(int key, int address)
            throws IndexOutOfBoundsException, IllegalArgumentException, IllegalStateException {
        checkKey(key);
        checkAddress(address);
        if (isMember(key)) {
            throw new IllegalStateException("there is a member with this key");
        }
        if (memberCount >= MOST_MEMBERS) {
            throw new IllegalStateException("there are 40 members");
        }
        write(key, address);
        memberCount++;
        return memberCount;
    }

    /** Lets a member change the address; returns the address before. */
    public int change(int key, int address)
            throws IndexOutOfBoundsException, IllegalArgumentException, IllegalStateException {
        checkKey(key);
        checkAddress(address);
        checkMember(key);
        int before = read(key);
        write(key, address);
        return before;
    }

    /** Lets a member leave; returns the last address. */
    public int leave(int key) throws IndexOutOfBoundsException, IllegalStateException {
        checkKey(key);
        checkMember(key);
        int last = read(key);
        write(key, NONE);
        memberCount--;
        return last;
    }

    /** Returns the address of a member, from the shard of the range; NONE if there is none. */
    public int address(int key) throws IndexOutOfBoundsException {
        checkKey(key);
        return read(key);
    }

    /** Returns how many members are of a district, a row that two shards have counted once. */
    public int inDistrict(int district) throws IndexOutOfBoundsException {
        checkDistrict(district);
        int members = 0;
        for (int key = 0; key < KEYS; key++) {
            if (districtOf(read(key)) == district) {
                members++;
            }
        }
        return members;
    }

    // ---- ranges and shards

    /** Splits a range behind a key; returns the number of the new range. */
    public int split(int key) throws IndexOutOfBoundsException, IllegalStateException {
        checkKey(key);
        int range = rangeHolding(key);
        if (key == lastKeyOf(range)) {
            throw new IllegalStateException("it is the last key of its range");
        }
        if (isMoved(range)) {
            throw new IllegalStateException("the range is moved");
        }
        if (rangeCount >= MOST_RANGES) {
            throw new IllegalStateException("there are 8 ranges");
        }
        insertCopyBehind(range);
        putLastKey(range, key);
        return range + 1;
    }

    /** Joins a range with the next one; returns how many ranges there are then. */
    public int merge(int range) throws IndexOutOfBoundsException, IllegalStateException {
        checkRange(range);
        int next = range + 1;
        if (!isRange(next)) {
            throw new IllegalStateException("there is no next range");
        }
        if (homeOf(range) != homeOf(next)) {
            throw new IllegalStateException("the ranges are in different shards");
        }
        if (isMoved(range) || isMoved(next)) {
            throw new IllegalStateException("one of the ranges is moved");
        }
        // Without this range, the next one begins where this one began.
        remove(range);
        return rangeCount;
    }

    /** Begins to move a range; returns how many rows are to be brought. */
    public int move(int range, int shard) throws IndexOutOfBoundsException, IllegalStateException {
        checkRange(range);
        checkShard(shard);
        if (isMoved(range)) {
            throw new IllegalStateException("the range is moved already");
        }
        if (homes[range] == shard) {
            throw new IllegalStateException("the range is in this shard");
        }
        targets[range] = shard;
        return countRows(homes[range], firstKeyOf(range), lastKeyOf(range));
    }

    /** Does a step of a move; returns the key whose row is brought, NONE if the move ends by it. */
    public int step(int range) throws IndexOutOfBoundsException, IllegalStateException {
        checkRange(range);
        checkMoved(range);
        int home = homes[range];
        int target = targets[range];
        int key = lowestKeyNotBrought(range);
        if (key != NONE) {
            putRow(target, key, rowOf(home, key));
            return key;
        }
        dropRows(home, range);
        homes[range] = target;
        targets[range] = NONE;
        return NONE;
    }

    /** Gives the move of a range up; returns how many rows the other shard had of it. */
    public int giveUp(int range) throws IndexOutOfBoundsException, IllegalStateException {
        checkRange(range);
        checkMoved(range);
        int target = targets[range];
        int brought = countRows(target, firstKeyOf(range), lastKeyOf(range));
        dropRows(target, range);
        targets[range] = NONE;
        return brought;
    }

    /** Returns how many ranges there are. */
    public int ranges() {
        return rangeCount;
    }

    /** Returns the range of a key. */
    public int rangeOf(int key) throws IndexOutOfBoundsException {
        checkKey(key);
        return rangeHolding(key);
    }

    /** Returns the shard of a range. */
    public int shardOf(int range) throws IndexOutOfBoundsException {
        checkRange(range);
        return homes[range];
    }

    /** Returns how many rows a shard has. */
    public int rows(int shard) throws IndexOutOfBoundsException {
        checkShard(shard);
        return countRows(shard, 0, KEYS - 1);
    }

    // ---- the vote

    /** Fixes a day: lays the roll; returns how many members are on it. */
    public int fix() throws IllegalStateException {
        if (rollLaid) {
            throw new IllegalStateException("a roll is laid");
        }
        for (int key = 0; key < KEYS; key++) {
            roll[key] = districtOf(read(key));
        }
        rollLaid = true;
        voteNumber++;
        return memberCount;
    }

    /** Returns the district of a member on the roll; NONE if no roll is laid or has this key. */
    public int onRoll(int key) throws IndexOutOfBoundsException {
        checkKey(key);
        return rollLaid ? roll[key] : NONE;
    }

    /** Sends a ballot to a member; returns the number of the ballot. */
    public int send(int key) throws IndexOutOfBoundsException, IllegalStateException {
        checkKey(key);
        if (!rollLaid || roll[key] == NONE) {
            throw new IllegalStateException("the key is not on a roll that is laid");
        }
        checkMember(key);
        int earlier = latestBallotTo(key);
        if (isBallot(earlier) && ballotStates[earlier] == RETURNED) {
            throw new IllegalStateException("the latest ballot was returned");
        }
        if (ballotCount >= MOST_BALLOTS) {
            throw new IllegalStateException("there are 60 ballots");
        }
        if (isBallot(earlier)) {
            ballotStates[earlier] = REPLACED;
        }
        int ballot = ballotCount;
        ballotKeys[ballot] = key;
        ballotVotes[ballot] = voteNumber;
        ballotAddresses[ballot] = read(key);
        ballotDistricts[ballot] = roll[key];
        ballotStates[ballot] = SENT;
        ballotCount++;
        return ballot;
    }

    /** Returns the address to which a ballot was sent. */
    public int sentTo(int ballot) throws IndexOutOfBoundsException {
        checkBallot(ballot);
        return ballotAddresses[ballot];
    }

    /** Lets a ballot come back; returns the district in which it counts. */
    public int giveBack(int ballot, int choice)
            throws IndexOutOfBoundsException, IllegalArgumentException, IllegalStateException {
        checkBallot(ballot);
        checkChoice(choice);
        if (ballotStates[ballot] != SENT) {
            throw new IllegalStateException("the ballot is replaced or returned");
        }
        if (!isOfOpenVote(ballot)) {
            throw new IllegalStateException("the vote of the ballot is closed");
        }
        ballotStates[ballot] = RETURNED;
        ballotChoices[ballot] = choice;
        return ballotDistricts[ballot];
    }

    /** Returns the state of a ballot: SENT, REPLACED or RETURNED. */
    public int stateOf(int ballot) throws IndexOutOfBoundsException {
        checkBallot(ballot);
        return ballotStates[ballot];
    }

    /** Returns how many ballots with a choice were counted in a district, in all votes together. */
    public int counted(int district, int choice)
            throws IndexOutOfBoundsException, IllegalArgumentException {
        checkDistrict(district);
        checkChoice(choice);
        int ballots = 0;
        for (int ballot = 0; ballot < ballotCount; ballot++) {
            if (ballotStates[ballot] == RETURNED
                    && ballotDistricts[ballot] == district
                    && ballotChoices[ballot] == choice) {
                ballots++;
            }
        }
        return ballots;
    }

    /** Closes the vote; returns how many ballots of it are out, the replaced ones not counted. */
    public int close() throws IllegalStateException {
        if (!rollLaid) {
            throw new IllegalStateException("no roll is laid");
        }
        int out = 0;
        for (int ballot = 0; ballot < ballotCount; ballot++) {
            if (isOfOpenVote(ballot) && ballotStates[ballot] == SENT) {
                out++;
            }
        }
        rollLaid = false;
        return out;
    }

    // ---- rows

    private int rowOf(int shard, int key) {
        return isShard(shard) && isKey(key) ? rowTable[shard * KEYS + key] : NONE;
    }

    // The shard NONE takes nothing, so that a write to a range that is not
    // moved need not ask whether there is a second shard.
    private void putRow(int shard, int key, int address) {
        if (isShard(shard) && isKey(key)) {
            rowTable[shard * KEYS + key] = address;
        }
    }

    private int read(int key) {
        return rowOf(homeOf(rangeHolding(key)), key);
    }

    private void write(int key, int address) {
        int range = rangeHolding(key);
        putRow(homeOf(range), key, address);
        putRow(targetOf(range), key, address);
    }

    private int countRows(int shard, int first, int last) {
        int count = 0;
        for (int key = first; key <= last && key < KEYS; key++) {
            if (rowOf(shard, key) != NONE) {
                count++;
            }
        }
        return count;
    }

    private void dropRows(int shard, int range) {
        int last = lastKeyOf(range);
        for (int key = firstKeyOf(range); key <= last && key < KEYS; key++) {
            putRow(shard, key, NONE);
        }
    }

    private int lowestKeyNotBrought(int range) {
        int home = homeOf(range);
        int target = targetOf(range);
        int last = lastKeyOf(range);
        for (int key = firstKeyOf(range); key <= last && key < KEYS; key++) {
            if (rowOf(home, key) != NONE && rowOf(target, key) == NONE) {
                return key;
            }
        }
        return NONE;
    }

    private static int districtOf(int address) {
        return address == NONE ? NONE : address / ADDRESSES_PER_DISTRICT;
    }

    // ---- ranges

    private int rangeHolding(int key) {
        int last = rangeCount - 1;
        for (int range = 0; range < last; range++) {
            if (key <= lastKeyOf(range)) {
                return range;
            }
        }
        return last;
    }

    private int homeOf(int range) {
        return isRange(range) ? homes[range] : NONE;
    }

    private int targetOf(int range) {
        return isRange(range) ? targets[range] : NONE;
    }

    private boolean isMoved(int range) {
        return targetOf(range) != NONE;
    }

    private int firstKeyOf(int range) {
        return range == 0 ? 0 : lastKeyOf(range - 1) + 1;
    }

    private int lastKeyOf(int range) {
        return isRange(range) ? lastKeys[range] : NONE;
    }

    private void putLastKey(int range, int key) {
        if (isRange(range)) {
            lastKeys[range] = key;
        }
    }

    private void insertCopyBehind(int range) {
        rangeCount++;
        for (int to = rangeCount - 1; to > range; to--) {
            copyRange(to - 1, to);
        }
    }

    private void remove(int range) {
        for (int to = range; to < rangeCount - 1; to++) {
            copyRange(to + 1, to);
        }
        rangeCount--;
    }

    private void copyRange(int from, int to) {
        if (isRange(from) && isRange(to)) {
            lastKeys[to] = lastKeys[from];
            homes[to] = homes[from];
            targets[to] = targets[from];
        }
    }

    // ---- ballots

    private boolean isOfOpenVote(int ballot) {
        return rollLaid && isBallot(ballot) && ballotVotes[ballot] == voteNumber;
    }

    // Ballots of earlier votes are passed over: a ballot takes the place of one
    // of the same roll only.
    private int latestBallotTo(int key) {
        for (int ballot = ballotCount - 1; ballot >= 0; ballot--) {
            if (isOfOpenVote(ballot) && ballotKeys[ballot] == key) {
                return ballot;
            }
        }
        return NONE;
    }

    // ---- what there is

    private static boolean isKey(int key) {
        return key >= 0 && key < KEYS;
    }

    private static boolean isShard(int shard) {
        return shard >= 0 && shard < SHARDS;
    }

    private boolean isRange(int range) {
        return range >= 0 && range < rangeCount;
    }

    private boolean isBallot(int ballot) {
        return ballot >= 0 && ballot < ballotCount;
    }

    private boolean isMember(int key) {
        return read(key) != NONE;
    }

    private static void checkKey(int key) {
        if (!isKey(key)) {
            throw new IndexOutOfBoundsException("no such key");
        }
    }

    private static void checkShard(int shard) {
        if (!isShard(shard)) {
            throw new IndexOutOfBoundsException("no such shard");
        }
    }

    private static void checkDistrict(int district) {
        if (district < 0 || district >= DISTRICTS) {
            throw new IndexOutOfBoundsException("no such district");
        }
    }

    private void checkRange(int range) {
        if (!isRange(range)) {
            throw new IndexOutOfBoundsException("no such range");
        }
    }

    private void checkBallot(int ballot) {
        if (!isBallot(ballot)) {
            throw new IndexOutOfBoundsException("no such ballot");
        }
    }

    private static void checkAddress(int address) {
        if (address < 0 || address >= ADDRESSES) {
            throw new IllegalArgumentException("the address is out of range");
        }
    }

    private static void checkChoice(int choice) {
        if (choice < 0 || choice >= CHOICES) {
            throw new IllegalArgumentException("the choice is out of range");
        }
    }

    private void checkMember(int key) {
        if (!isMember(key)) {
            throw new IllegalStateException("there is no member with this key");
        }
    }

    private void checkMoved(int range) {
        if (!isMoved(range)) {
            throw new IllegalStateException("the range is not moved");
        }
    }
}
