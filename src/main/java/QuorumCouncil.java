/**
 * What a leader of several servers keeps of the others, and what majorities say.
 * The numbered promises it keeps stand in ../shared/DOC.md.
 */
public final class QuorumCouncil {
    public static final int NONE = -1;

    private static final int SERVERS = 7;
    private static final int ALL_SERVERS = 127;
    private static final int GREATEST_NUMBER = 1000000000;

    private static final int NOTHING_SENT = 0;
    private static final int MOST_ENTRIES_SENT = 6;
    private static final int NO_ENTRIES_SENT = 7;
    private static final int SNAPSHOT_PIECE_SENT = 8;

    private static final int MOST_FLYING_PROBING = 1;
    private static final int MOST_FLYING_OTHERWISE = 4;

    private final int itself;
    private int oldSet;
    private int newSet;
    private int learnerSet;
    private int voteSet;
    private int currentRound;

    // A row for each thing kept, indexed by server: made once, so that no call makes an object.
    private final int[] next = new int[SERVERS];
    private final int[] match = new int[SERVERS];
    private final int[] flying = new int[SERVERS];
    private final boolean[] probing = new boolean[SERVERS];
    private final int[] offset = new int[SERVERS];
    private final int[] ack = new int[SERVERS];
    private final int[] heard = new int[SERVERS];
    private final boolean[] answered = new boolean[SERVERS];

    public QuorumCouncil(int itself, int old) {
        int lowBits = itself & 7;
        this.itself = lowBits == 7 ? 6 : lowBits;
        int lowSet = old & ALL_SERVERS;
        this.oldSet = lowSet == 0 ? 1 : lowSet;
    }

    public void members(int old, int fresh, int learners) throws IllegalArgumentException {
        requireSet(old);
        requireSet(fresh);
        requireSet(learners);
        if (old == 0) {
            throw new IllegalArgumentException("OLD is empty");
        }
        if ((learners & (old | fresh)) != 0) {
            throw new IllegalArgumentException("a learner is a voter");
        }
        oldSet = old;
        newSet = fresh;
        learnerSet = learners;
    }

    public void change(int target, int least) throws IllegalArgumentException, IllegalStateException {
        requireSet(target);
        if (target == 0) {
            throw new IllegalArgumentException("the target is empty");
        }
        // The document names the wrong argument first, so it is told even while a change is under way.
        if ((target & ~(oldSet | learnersMatching(least))) != 0) {
            throw new IllegalArgumentException("one of the target is neither old nor a learner far enough");
        }
        if (newSet != 0) {
            throw new IllegalStateException("a change is under way");
        }
        newSet = target;
        learnerSet = learnerSet & ~target;
    }

    public boolean settle() throws IllegalStateException {
        if (newSet == 0) {
            throw new IllegalStateException("no change is under way");
        }
        oldSet = newSet;
        newSet = 0;
        return isIn(oldSet, itself);
    }

    public boolean majority(int set) throws IllegalArgumentException {
        requireSet(set);
        return isMajority(set);
    }

    public void ballot() {
        voteSet = 0;
    }

    public boolean vote(int server) throws IndexOutOfBoundsException {
        requireServer(server);
        voteSet = voteSet | (1 << server);
        return isMajority(voteSet);
    }

    public void lead(int last, int now) throws IllegalArgumentException {
        requireNumber(last);
        requireNumber(now);
        for (int s = 0; s < SERVERS; s++) {
            next[s] = last + 1;
            match[s] = 0;
            flying[s] = 0;
            probing[s] = true;
            offset[s] = 0;
            ack[s] = 0;
            heard[s] = now;
            answered[s] = false;
        }
        currentRound = 0;
    }

    public int round() {
        currentRound = currentRound + 1;
        int peers = peerSet();
        for (int s = 0; s < SERVERS; s++) {
            if (isIn(peers, s) && flying[s] > 0 && !answered[s]) {
                next[s] = match[s] + 1;
                flying[s] = 0;
                probing[s] = true;
            }
            answered[s] = false;
        }
        return currentRound;
    }

    public int sending(int server, int base, int last, boolean beat)
            throws IndexOutOfBoundsException, IllegalArgumentException {
        requirePeer(server);
        requireNumber(base);
        requireNumber(last);
        if (last < base) {
            throw new IllegalArgumentException("the last entry is below the snapshot's");
        }
        if (next[server] <= base) {
            return sendSnapshotPiece(server);
        }
        if (next[server] <= last && mayFlyMore(server)) {
            return sendEntries(server, last);
        }
        return beat ? NO_ENTRIES_SENT : NOTHING_SENT;
    }

    public int matched(int server, int number, int round, int now)
            throws IndexOutOfBoundsException, IllegalArgumentException {
        requireServer(server);
        requireNumber(number);
        requireNumber(round);
        requireNumber(now);
        hear(server, round, now);
        match[server] = Math.max(match[server], number);
        probing[server] = false;
        flying[server] = Math.max(flying[server] - 1, 0);
        next[server] = Math.max(next[server], number + 1);
        return match[server];
    }

    public int refused(int server, int from, int last, int round, int now)
            throws IndexOutOfBoundsException, IllegalArgumentException {
        requireServer(server);
        requireNumber(from);
        requireNumber(last);
        requireNumber(round);
        requireNumber(now);
        hear(server, round, now);
        flying[server] = 0;
        probing[server] = true;
        // The upper bound comes last: it is the one that holds when the two part.
        next[server] = Math.min(Math.max(from, match[server] + 1), last + 1);
        return next[server];
    }

    public boolean stored(int server, int bytes, int size, int base, int round, int now)
            throws IndexOutOfBoundsException, IllegalArgumentException {
        requireServer(server);
        requireNumber(bytes);
        requireNumber(size);
        requireNumber(base);
        requireNumber(round);
        requireNumber(now);
        hear(server, round, now);
        flying[server] = 0;
        if (bytes < size) {
            offset[server] = bytes;
            return false;
        }
        match[server] = Math.max(match[server], base);
        next[server] = base + 1;
        probing[server] = true;
        offset[server] = 0;
        return true;
    }

    public void own(int number, int now) throws IllegalArgumentException {
        requireNumber(number);
        requireNumber(now);
        match[itself] = number;
        heard[itself] = now;
        ack[itself] = currentRound;
    }

    public int agreed(int what) throws IllegalArgumentException {
        switch (what) {
            case 0:
                return whatMajorityHas(match);
            case 1:
                return whatMajorityHas(ack);
            case 2:
                return whatMajorityHas(heard);
            default:
                throw new IllegalArgumentException("nothing of that kind is agreed on");
        }
    }

    public int server(int server, int what) throws IndexOutOfBoundsException {
        requireServer(server);
        switch (what) {
            case 0:
                return next[server];
            case 1:
                return match[server];
            case 2:
                return flying[server];
            case 3:
                return probing[server] ? 1 : 0;
            case 4:
                return offset[server];
            case 5:
                return ack[server];
            case 6:
                return heard[server];
            case 7:
                return answered[server] ? 1 : 0;
            default:
                throw new IndexOutOfBoundsException("nothing of that kind is kept of a server");
        }
    }

    public int council(int what) {
        switch (what) {
            case 0:
                return oldSet;
            case 1:
                return newSet;
            case 2:
                return learnerSet;
            case 3:
                return voterSet();
            case 4:
                return peerSet();
            case 5:
                return voteSet;
            case 6:
                return currentRound;
            case 7:
                return itself;
            default:
                return NONE;
        }
    }

    private static void requireSet(int set) {
        if (set < 0 || set > ALL_SERVERS) {
            throw new IllegalArgumentException("no set of servers");
        }
    }

    private static void requireNumber(int number) {
        if (number < 0 || number > GREATEST_NUMBER) {
            throw new IllegalArgumentException("no such number");
        }
    }

    private static void requireServer(int server) {
        if (server < 0 || server >= SERVERS) {
            throw new IndexOutOfBoundsException("no such server");
        }
    }

    private void requirePeer(int server) {
        requireServer(server);
        if (!isIn(peerSet(), server)) {
            throw new IndexOutOfBoundsException("the server is no peer");
        }
    }

    private static boolean isIn(int set, int server) {
        return (set & (1 << server)) != 0;
    }

    private int voterSet() {
        return oldSet | newSet;
    }

    private int peerSet() {
        return (voterSet() | learnerSet) & ~(1 << itself);
    }

    private int learnersMatching(int least) {
        return learnerSet & thoseWithAtLeast(match, least);
    }

    private static int thoseWithAtLeast(int[] kept, int least) {
        int set = 0;
        for (int s = 0; s < kept.length; s++) {
            if (kept[s] >= least) {
                set = set | (1 << s);
            }
        }
        return set;
    }

    private boolean isMajority(int set) {
        return isMoreThanHalf(set, oldSet) && (newSet == 0 || isMoreThanHalf(set, newSet));
    }

    private static boolean isMoreThanHalf(int set, int whole) {
        return 2 * Integer.bitCount(set & whole) > Integer.bitCount(whole);
    }

    // The greatest such number is one that some server has, and 0 is had by all, so no others are tried.
    private int whatMajorityHas(int[] kept) {
        int greatest = 0;
        for (int s = 0; s < kept.length; s++) {
            if (kept[s] > greatest && isMajority(thoseWithAtLeast(kept, kept[s]))) {
                greatest = kept[s];
            }
        }
        return greatest;
    }

    private boolean mayFlyMore(int server) {
        return flying[server] < (probing[server] ? MOST_FLYING_PROBING : MOST_FLYING_OTHERWISE);
    }

    private int sendSnapshotPiece(int server) {
        if (flying[server] > 0) {
            return NOTHING_SENT;
        }
        flying[server] = 1;
        return SNAPSHOT_PIECE_SENT;
    }

    private int sendEntries(int server, int last) {
        int entries = Math.min(last - next[server] + 1, MOST_ENTRIES_SENT);
        flying[server] = flying[server] + 1;
        next[server] = next[server] + entries;
        return entries;
    }

    private void hear(int server, int round, int now) {
        heard[server] = now;
        answered[server] = true;
        ack[server] = Math.max(ack[server], round);
    }
}
