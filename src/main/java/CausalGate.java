/**
 * A gate for changes of up to eight actors: a change waits until all that it hangs on has come
 * through, and then comes through itself, once.
 */
public final class CausalGate {
    public static final int NONE = -1;

    private static final int ACTORS = 8;
    private static final int LAST_SEQ = 255;
    private static final int MOST_WAITING = 64;
    // One more than may stay: an offered change stands among those that wait while the gate is worked.
    private static final int WAIT_ROOM = MOST_WAITING + 1;
    // Each offer adds at most one change, and an object is used for at most 512 calls.
    private static final int THROUGH_ROOM = 512;

    // A key is an actor and a SEQ in one number, so that keys sort by actor and then by SEQ.
    private static final int KEY_SHIFT = 8;
    private static final int SEQ_MASK = 255;

    private final int[] throughKeys;
    private final int[] throughLabels;
    private int throughCount;

    // Sorted by key.
    private final int[] waitKeys;
    private final long[] waitClocks;
    private final int[] waitLabels;
    private int waitCount;

    private long gateClock;
    private int knownOffers;
    private int mostWaited;

    public CausalGate() {
        throughKeys = new int[THROUGH_ROOM];
        throughLabels = new int[THROUGH_ROOM];
        waitKeys = new int[WAIT_ROOM];
        waitClocks = new long[WAIT_ROOM];
        waitLabels = new int[WAIT_ROOM];
    }

    public void clear() {
        throughCount = 0;
        waitCount = 0;
        gateClock = 0L;
        knownOffers = 0;
        mostWaited = 0;
    }

    public int offer(int actor, int seq, long clock, int label)
            throws IllegalArgumentException, IllegalStateException {
        if (!isActor(actor) || !isSeq(seq)) {
            throw new IllegalArgumentException("no such actor or no such seq");
        }
        int key = keyOf(actor, seq);
        if (isKnown(key)) {
            knownOffers++;
            return 0;
        }
        if (waitCount >= MOST_WAITING && !canComeThrough(key, clock)) {
            throw new IllegalStateException("too many changes would wait");
        }
        insertWaiting(key, clock, label);
        int came = letThroughAllThatCan();
        mostWaited = Math.max(mostWaited, waitCount);
        return came;
    }

    public boolean known(int actor, int seq) {
        return isActor(actor) && isSeq(seq) && isKnown(keyOf(actor, seq));
    }

    public long clock() {
        return gateClock;
    }

    public int through(int i, int what) throws IndexOutOfBoundsException {
        if (i < 0 || i >= throughCount || what < 0 || what > 2) {
            throw new IndexOutOfBoundsException("no such change or no such what");
        }
        switch (what) {
            case 0:
                return actorOf(throughKeys[i]);
            case 1:
                return seqOf(throughKeys[i]);
            default:
                return throughLabels[i];
        }
    }

    public int waiting(int i, int what) throws IndexOutOfBoundsException {
        if (i < 0 || i >= waitCount || what < 0 || what > 4) {
            throw new IndexOutOfBoundsException("no such change or no such what");
        }
        switch (what) {
            case 0:
                return actorOf(waitKeys[i]);
            case 1:
                return seqOf(waitKeys[i]);
            case 2:
                return waitLabels[i];
            case 3:
                return lackedActor(waitKeys[i], waitClocks[i]);
            default:
                return nextSeq(lackedActor(waitKeys[i], waitClocks[i]));
        }
    }

    public int ahead(long clock) {
        int count = 0;
        for (int actor = 0; actor < ACTORS; actor++) {
            count += Math.max(0, byteOf(gateClock, actor) - byteOf(clock, actor));
        }
        return count;
    }

    public int next(long clock, int i) {
        // i may be the greatest int, so it is compared before 1 is added.
        if (i >= throughCount) {
            return NONE;
        }
        for (int place = Math.max(i, NONE) + 1; place < throughCount; place++) {
            int key = throughKeys[place];
            if (seqOf(key) > byteOf(clock, actorOf(key))) {
                return place;
            }
        }
        return NONE;
    }

    public int compare(long clock) {
        boolean gateIsMore = false;
        boolean gateIsLess = false;
        for (int actor = 0; actor < ACTORS; actor++) {
            int ours = byteOf(gateClock, actor);
            int theirs = byteOf(clock, actor);
            gateIsMore = gateIsMore || ours > theirs;
            gateIsLess = gateIsLess || ours < theirs;
        }
        if (gateIsMore) {
            return gateIsLess ? 3 : 1;
        }
        return gateIsLess ? 2 : 0;
    }

    public int forget(int actor) {
        int kept = 0;
        for (int at = 0; at < waitCount; at++) {
            if (actorOf(waitKeys[at]) != actor) {
                moveWaiting(at, kept);
                kept++;
            }
        }
        int forgotten = waitCount - kept;
        waitCount = kept;
        return forgotten;
    }

    public int look(int which) {
        switch (which) {
            case 0:
                return throughCount;
            case 1:
                return waitCount;
            case 2:
                return knownOffers;
            case 3:
                return mostWaited;
            default:
                return NONE;
        }
    }

    private static boolean isActor(int actor) {
        return actor >= 0 && actor < ACTORS;
    }

    private static boolean isSeq(int seq) {
        return seq >= 1 && seq <= LAST_SEQ;
    }

    private static int keyOf(int actor, int seq) {
        return (actor << KEY_SHIFT) | seq;
    }

    private static int actorOf(int key) {
        return key >> KEY_SHIFT;
    }

    private static int seqOf(int key) {
        return key & SEQ_MASK;
    }

    private static int byteOf(long clock, int actor) {
        return (int) (clock >>> (8 * actor)) & 255;
    }

    private int nextSeq(int actor) {
        return byteOf(gateClock, actor) + 1;
    }

    private boolean isKnown(int key) {
        if (seqOf(key) < nextSeq(actorOf(key))) {
            return true;
        }
        for (int at = 0; at < waitCount; at++) {
            if (waitKeys[at] == key) {
                return true;
            }
        }
        return false;
    }

    private boolean canComeThrough(int key, long clock) {
        // The room is full only behind an object's 512th call; then nothing more comes through.
        return throughCount < THROUGH_ROOM && lackedActor(key, clock) == NONE;
    }

    private int lackedActor(int key, long clock) {
        int own = actorOf(key);
        if (seqOf(key) != nextSeq(own)) {
            return own;
        }
        for (int actor = 0; actor < ACTORS; actor++) {
            if (actor != own && byteOf(clock, actor) > byteOf(gateClock, actor)) {
                return actor;
            }
        }
        return NONE;
    }

    private int letThroughAllThatCan() {
        int came = 0;
        while (came < WAIT_ROOM) {
            int at = firstThatCanComeThrough();
            if (at == NONE) {
                return came;
            }
            letThrough(at);
            came++;
        }
        return came;
    }

    private int firstThatCanComeThrough() {
        // Of one actor at most one can, so the first by key is the one of the least actor.
        for (int at = 0; at < waitCount; at++) {
            if (canComeThrough(waitKeys[at], waitClocks[at])) {
                return at;
            }
        }
        return NONE;
    }

    private void letThrough(int at) {
        throughKeys[throughCount] = waitKeys[at];
        throughLabels[throughCount] = waitLabels[at];
        throughCount++;
        // Its SEQ is 1 more than its actor's byte and at most 255, so nothing is carried.
        gateClock += 1L << (8 * actorOf(waitKeys[at]));
        removeWaiting(at);
    }

    private void insertWaiting(int key, long clock, int label) {
        int at = waitCount;
        while (at > 0 && waitKeys[at - 1] > key) {
            moveWaiting(at - 1, at);
            at--;
        }
        waitKeys[at] = key;
        waitClocks[at] = clock;
        waitLabels[at] = label;
        waitCount++;
    }

    private void removeWaiting(int gone) {
        for (int at = gone + 1; at < waitCount; at++) {
            moveWaiting(at, at - 1);
        }
        waitCount--;
    }

    private void moveWaiting(int from, int to) {
        waitKeys[to] = waitKeys[from];
        waitClocks[to] = waitClocks[from];
        waitLabels[to] = waitLabels[from];
    }
}
