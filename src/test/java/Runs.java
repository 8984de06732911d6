/** Beginnings that several tests share. */
final class Runs {
    /** Not processes. */
    static final int[] NO_PROCESSES = {-1, 3, 4, Integer.MIN_VALUE, Integer.MAX_VALUE};
    /** Not messages of an object that has made fewer than 104, the most there can be. */
    static final int[] NO_MESSAGES = {-1, 104, 1000, Integer.MIN_VALUE, Integer.MAX_VALUE};

    private Runs() {
    }

    /** Brings an up process to the given state by a receipt from outside; answers the message. */
    static int bring(OrphanRuntime x, int p, int state) {
        int m = x.input(p, state - 31 * x.state(p));
        x.deliver(m);
        return m;
    }

    /**
     * Message 0 from outside gives interval 0 of process 0 with state 3, which sends message 1 to
     * process 1 and message 2 to process 2; message 1 gives interval 1 of process 1 with state 1,
     * not stable, which sends message 3 to process 2.
     */
    static OrphanRuntime oneUnstable() {
        OrphanRuntime x = new OrphanRuntime();
        x.input(0, 3);
        x.deliver(0);
        x.deliver(1);
        return x;
    }

    /** As oneUnstable, then message 3 gives interval 2 of process 2, an orphan once process 1 crashes. */
    static OrphanRuntime oneOrphan() {
        OrphanRuntime x = oneUnstable();
        x.deliver(3);
        return x;
    }

    /**
     * Interval 3 of process 1 and interval 2 of process 0 are not stable and do not depend on each
     * other. Process 2 has received message 6 of the one in interval 4 and then message 5 of the
     * other in interval 5, and is flushed. Announcement 0 is about interval 3, announcement 1 about
     * interval 2; process 2 has learned neither.
     */
    static OrphanRuntime twoLost() {
        OrphanRuntime x = new OrphanRuntime();
        x.input(0, 3);
        x.deliver(0);
        x.input(1, 6);
        x.deliver(3);
        x.deliver(4);
        x.deliver(1);
        x.deliver(6);
        x.deliver(5);
        x.flush(2);
        x.crash(1);
        x.restart(1);
        x.crash(0);
        x.restart(0);
        return x;
    }
}
