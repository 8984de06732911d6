/**
 * Three processes that answer messages, log what they receive only now and then, go on at once,
 * and after a crash find out which of their states stand on something that was lost.
 *
 * Sets of intervals are longs, bit i for interval i: there are never more than 40 intervals.
 */
public final class OrphanRuntime {
    public static final int REFUSED = -1;
    public static final int HELD = -2;
    public static final int ORPHAN = -3;
    public static final int WAITING = 0;
    public static final int TAKEN = 1;
    public static final int MISSING = 2;
    public static final int DISCARDED = 3;

    private static final int PROCESSES = 3;
    private static final int MAX_INPUTS = 24;
    private static final int MAX_INTERVALS = 40;
    private static final int MAX_MESSAGES = MAX_INPUTS + 2 * MAX_INTERVALS;
    private static final int OUTSIDE = -1;
    private static final int UNANNOUNCED = -1;

    private final ProcessRecord[] processes;
    private final IntervalTable intervals;
    private final MessageTable messages;
    private int announcements;

    public OrphanRuntime() {
        processes = new ProcessRecord[PROCESSES];
        for (int p = 0; p < PROCESSES; p++) {
            processes[p] = new ProcessRecord();
        }
        intervals = new IntervalTable();
        messages = new MessageTable();
    }

    public void renew() {
        for (int p = 0; p < PROCESSES; p++) {
            processes[p].clear();
        }
        intervals.clear();
        messages.clear();
        announcements = 0;
    }

    public int input(int p, int value) {
        if (!isProcess(p) || messages.inputs >= MAX_INPUTS) {
            return REFUSED;
        }
        messages.inputs++;
        return messages.make(value, p, OUTSIDE, 0);
    }

    public int deliver(int m) {
        if (!messages.isWaiting(m) || intervals.count >= MAX_INTERVALS) {
            return REFUSED;
        }
        int p = messages.targets[m];
        ProcessRecord process = processes[p];
        if (process.down) {
            return REFUSED;
        }
        if (messages.knows[m] > process.learned) {
            return HELD;
        }
        if (isKnownOrphan(process, m)) {
            messages.statuses[m] = DISCARDED;
            return ORPHAN;
        }
        return receive(p, m);
    }

    public boolean lose(int m) {
        if (!messages.isWaiting(m) || messages.sources[m] == OUTSIDE) {
            return false;
        }
        messages.statuses[m] = MISSING;
        return true;
    }

    public int resend(int p) {
        if (!isUp(p)) {
            return REFUSED;
        }
        return messages.reviveFrom(processes[p].chainSet());
    }

    public int flush(int p) {
        if (!isUp(p)) {
            return REFUSED;
        }
        return makeStable(processes[p]);
    }

    public int checkpoint(int p) {
        if (!isUp(p)) {
            return REFUSED;
        }
        ProcessRecord process = processes[p];
        makeStable(process);
        process.keepCheckpoint();
        return process.chainLength;
    }

    public int crash(int p) {
        if (!isUp(p)) {
            return REFUSED;
        }
        ProcessRecord process = processes[p];
        process.down = true;
        return loseUnstable(process);
    }

    public int restart(int p) {
        if (!isProcess(p) || !processes[p].down) {
            return REFUSED;
        }
        ProcessRecord process = processes[p];
        process.down = false;
        intervals.announce(process.lostInCrash, announcements);
        announcements++;
        // One after the other: what a message becomes hangs on what is learned by then.
        for (int a = process.learned; a < announcements; a++) {
            learnNext(process);
        }
        process.countReplay();
        return process.chainLength;
    }

    public int learn(int p) {
        if (!isUp(p) || processes[p].learned >= announcements) {
            return REFUSED;
        }
        ProcessRecord process = processes[p];
        int undone = learnNext(process);
        if (undone > 0) {
            process.countReplay();
        }
        return undone;
    }

    public int release(int p) {
        if (!isUp(p)) {
            return REFUSED;
        }
        ProcessRecord process = processes[p];
        int before = process.outputCount;
        for (int k = 0; k < process.chainLength; k++) {
            int i = process.chain[k];
            if (intervals.isReleasable(i)) {
                intervals.released |= 1L << i;
                process.addOutput(intervals.states[i]);
            }
        }
        return process.outputCount - before;
    }

    public int released(int p, int k) {
        if (!isProcess(p) || k < 0 || k >= processes[p].outputCount) {
            return 0;
        }
        return processes[p].outputs[k];
    }

    public int outputs(int p) {
        return isProcess(p) ? processes[p].outputCount : REFUSED;
    }

    public int state(int p) {
        return isUp(p) ? stateAtEnd(processes[p]) : 0;
    }

    public int length(int p) {
        return isUp(p) ? processes[p].chainLength : REFUSED;
    }

    public int known(int p) {
        return isProcess(p) ? processes[p].learned : REFUSED;
    }

    public int status(int m) {
        return messages.isMade(m) ? messages.statuses[m] : REFUSED;
    }

    public int orphans() {
        int found = 0;
        for (int p = 0; p < PROCESSES; p++) {
            if (!processes[p].down) {
                found += orphansOn(processes[p]);
            }
        }
        return found;
    }

    public int replayed(int p) {
        return isProcess(p) ? processes[p].replays : REFUSED;
    }

    private static boolean isProcess(int p) {
        return p >= 0 && p < PROCESSES;
    }

    private boolean isUp(int p) {
        return isProcess(p) && !processes[p].down;
    }

    private int stateAtEnd(ProcessRecord process) {
        int last = process.chainLength - 1;
        return last < 0 ? 0 : intervals.states[process.chain[last]];
    }

    private long dependsAtEnd(ProcessRecord process) {
        int last = process.chainLength - 1;
        return last < 0 ? 0L : intervals.depends[process.chain[last]];
    }

    private long dependsAtSource(int m) {
        int source = messages.sources[m];
        return source == OUTSIDE ? 0L : intervals.depends[source];
    }

    private boolean isKnownOrphan(ProcessRecord process, int m) {
        return (dependsAtSource(m) & process.learnedLost) != 0L;
    }

    /** Asks that fewer than MAX_INTERVALS intervals were made. */
    private int receive(int p, int m) {
        ProcessRecord process = processes[p];
        int t = 31 * stateAtEnd(process) + messages.values[m];
        int i = intervals.make(t, m, dependsAtEnd(process) | dependsAtSource(m));
        process.append(i);
        messages.statuses[m] = TAKEN;
        sendFrom(p, i);
        if (messages.sources[m] == OUTSIDE) {
            makeStable(process);
        }
        return i;
    }

    private void sendFrom(int p, int i) {
        int t = intervals.states[i];
        int knows = processes[p].learned;
        if ((t & 1) != 0) {
            messages.make(t >> 1, (p + 1) % PROCESSES, i, knows);
        }
        if ((t & 2) != 0) {
            messages.make(t >> 2, (p + 2) % PROCESSES, i, knows);
        }
    }

    private int makeStable(ProcessRecord process) {
        long fresh = process.chainSet() & ~intervals.stable;
        intervals.stable |= fresh;
        return Long.bitCount(fresh);
    }

    private int loseUnstable(ProcessRecord process) {
        long gone = process.chainSet() & ~intervals.stable;
        // Flushing takes the whole chain, so what is not stable is the chain's end.
        int kept = process.chainLength - Long.bitCount(gone);
        for (int k = kept; k < process.chainLength; k++) {
            messages.statuses[intervals.receipts[process.chain[k]]] = MISSING;
        }
        process.chainLength = kept;
        process.lostInCrash = gone;
        intervals.lost |= gone;
        return Long.bitCount(gone);
    }

    /** Asks that there is an announcement that the process has not learned. */
    private int learnNext(ProcessRecord process) {
        long lost = intervals.announcedBy(process.learned);
        process.learned++;
        process.learnedLost |= lost;
        int kept = firstOnChain(process, lost);
        int undone = process.chainLength - kept;
        for (int k = kept; k < process.chainLength; k++) {
            giveBack(process, intervals.receipts[process.chain[k]]);
        }
        process.chainLength = kept;
        process.dropLongCheckpoints();
        return undone;
    }

    private void giveBack(ProcessRecord process, int m) {
        messages.statuses[m] = isKnownOrphan(process, m) ? DISCARDED : WAITING;
    }

    /** The place of the first interval on the chain that depends on one of the set, or the chain's length. */
    private int firstOnChain(ProcessRecord process, long set) {
        for (int k = 0; k < process.chainLength; k++) {
            if ((intervals.depends[process.chain[k]] & set) != 0L) {
                return k;
            }
        }
        return process.chainLength;
    }

    private int orphansOn(ProcessRecord process) {
        // Whoever stands behind an orphan depends on it, and so is one too.
        return process.chainLength - firstOnChain(process, intervals.lost);
    }

    /** What one process has: its chain, what it has learned, its checkpoints and its outputs. */
    private static final class ProcessRecord {
        final int[] chain = new int[MAX_INTERVALS];
        final int[] outputs = new int[MAX_INTERVALS];
        boolean down;
        int chainLength;
        int outputCount;
        int learned;
        long learnedLost;
        long lostInCrash;
        // 0 stands for no checkpoint too: both take nothing off a replay.
        int latestCheckpoint;
        int olderCheckpoint;
        int replays;

        void clear() {
            down = false;
            chainLength = 0;
            outputCount = 0;
            learned = 0;
            learnedLost = 0L;
            lostInCrash = 0L;
            latestCheckpoint = 0;
            olderCheckpoint = 0;
            replays = 0;
        }

        /** Asks for an interval that was not on a chain before: so a chain never outgrows its row. */
        void append(int i) {
            chain[chainLength] = i;
            chainLength++;
        }

        /** Asks for an output that was not released before: so the outputs never outgrow their row. */
        void addOutput(int value) {
            outputs[outputCount] = value;
            outputCount++;
        }

        long chainSet() {
            long set = 0L;
            for (int k = 0; k < chainLength; k++) {
                set |= 1L << chain[k];
            }
            return set;
        }

        void keepCheckpoint() {
            if (latestCheckpoint != chainLength) {
                olderCheckpoint = latestCheckpoint;
                latestCheckpoint = chainLength;
            }
        }

        void dropLongCheckpoints() {
            // The older one is the shorter one, so it can be too long only if both are.
            if (olderCheckpoint > chainLength) {
                olderCheckpoint = 0;
                latestCheckpoint = 0;
            } else if (latestCheckpoint > chainLength) {
                latestCheckpoint = olderCheckpoint;
                olderCheckpoint = 0;
            }
        }

        void countReplay() {
            replays += chainLength - latestCheckpoint;
        }
    }

    /** All intervals ever made, by number; those off the chains too, since others may depend on them. */
    private static final class IntervalTable {
        final int[] states = new int[MAX_INTERVALS];
        final int[] receipts = new int[MAX_INTERVALS];
        final int[] announcedIn = new int[MAX_INTERVALS];
        final long[] depends = new long[MAX_INTERVALS];
        int count;
        long stable;
        long lost;
        long released;

        void clear() {
            count = 0;
            stable = 0L;
            lost = 0L;
            released = 0L;
        }

        /** Asks that fewer than MAX_INTERVALS intervals were made. */
        int make(int newState, int message, long dependsBefore) {
            int i = count;
            count++;
            states[i] = newState;
            receipts[i] = message;
            announcedIn[i] = UNANNOUNCED;
            depends[i] = dependsBefore | (1L << i);
            return i;
        }

        void announce(long set, int announcement) {
            for (int i = 0; i < count; i++) {
                if ((set & (1L << i)) != 0L) {
                    announcedIn[i] = announcement;
                }
            }
        }

        long announcedBy(int announcement) {
            long set = 0L;
            for (int i = 0; i < count; i++) {
                if (announcedIn[i] == announcement) {
                    set |= 1L << i;
                }
            }
            return set;
        }

        boolean isReleasable(int i) {
            return (states[i] & 4) != 0
                && (released & (1L << i)) == 0L
                && (depends[i] & ~stable) == 0L;
        }
    }

    /** All messages ever made, by number. */
    private static final class MessageTable {
        final int[] values = new int[MAX_MESSAGES];
        final int[] targets = new int[MAX_MESSAGES];
        final int[] sources = new int[MAX_MESSAGES];
        final int[] knows = new int[MAX_MESSAGES];
        final int[] statuses = new int[MAX_MESSAGES];
        int count;
        int inputs;

        void clear() {
            count = 0;
            inputs = 0;
        }

        /** The bounds on inputs and on intervals, two messages each at most, keep the rows long enough. */
        int make(int value, int target, int source, int known) {
            int m = count;
            count++;
            values[m] = value;
            targets[m] = target;
            sources[m] = source;
            knows[m] = known;
            statuses[m] = WAITING;
            return m;
        }

        boolean isMade(int m) {
            return m >= 0 && m < count;
        }

        boolean isWaiting(int m) {
            return isMade(m) && statuses[m] == WAITING;
        }

        /** A message from outside is never MISSING, so each one that is has a source. */
        int reviveFrom(long set) {
            int revived = 0;
            for (int m = 0; m < count; m++) {
                if (statuses[m] == MISSING && (set & (1L << sources[m])) != 0L) {
                    statuses[m] = WAITING;
                    revived++;
                }
            }
            return revived;
        }
    }
}
