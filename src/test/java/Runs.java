/** Beginnings that several tests share. */
final class Runs {
    /** Not processes. */
    static final int[] NO_PROCESSES = {-1, 3, 4, Integer.MIN_VALUE, Integer.MAX_VALUE};
    /** Not messages of an object that has made fewer than 104, the most there can be. */
    static final int[] NO_MESSAGES = {-1, 104, 1000, Integer.MIN_VALUE, Integer.MAX_VALUE};

    private Runs() {
    }

    /** Brings an up process to the given state by a receipt from outside; answers the message. */
    static int bring(OrphanRuntime x, int p, int state) {
        int m = x.input(p, state - 31 * x.state(p));
        x.deliver(m);
        return m;
    }

    /**
     * Message 0 from outside gives interval 0 of process 0 with state 3, which sends message 1 to
     * process 1 and message 2 to process 2; message 1 gives interval 1 of process 1 with state 1,
     * not stable, which sends message 3 to process 2.
     */
    static OrphanRuntime oneUnstable() {
        OrphanRuntime x = new OrphanRuntime();
        x.input(0, 3);
        x.deliver(0);
        x.deliver(1);
        return x;
    }

    /** As oneUnstable, then message 3 gives interval 2 of process 2, an orphan once process 1 crashes. */
    static OrphanRuntime oneOrphan() {
        OrphanRuntime x = oneUnstable();
        x.deliver(3);
        return x;
    }

    /**
     * Interval 3 of process 1 and interval 2 of process 0 are not stable and do not depend on each
     * other. Process 2 has received message 6 of the one in interval 4 and then message 5 of the
     * other in interval 5.
     */
    static OrphanRuntime twoToLose() {
        OrphanRuntime x = new OrphanRuntime();
        x.input(0, 3);
        x.deliver(0);
        x.input(1, 6);
        x.deliver(3);
        x.deliver(4);
        x.deliver(1);
        x.deliver(6);
        x.deliver(5);
        return x;
    }

    /**
     * As twoToLose; process 2 is flushed. Announcement 0 is about interval 3, announcement 1 about
     * interval 2; process 2 has learned neither.
     */
    static OrphanRuntime twoLost() {
        OrphanRuntime x = twoToLose();
        x.flush(2);
        x.crash(1);
        x.restart(1);
        x.crash(0);
        x.restart(0);
        return x;
    }

    /**
     * Something of everything, so that a call that should change nothing has all of it to spoil.
     * Process 1 is down: its chain has an output that was not released (state 5) and the source of
     * message 1, which is MISSING; its crash has lost interval 9, on which interval 10 of process 0
     * stands; it has not learned announcement 1. Announcement 0 is about interval 5, on which
     * intervals 6 and 7 of process 2 stand; process 2 has learned nothing. Announcement 1 is about
     * none. Not stable: 6, 7 and 10. Of process 0 two outputs are released (5, 7), two not (4, 15).
     * WAITING: 5, 10, 12, 17 and, from outside, 19 for process 1; 15 (HELD) and, from outside, 18 for
     * process 2. MISSING: 1, 3, 14. DISCARDED: 11. Checkpoints: 1 of process 0, 1 of process 2.
     */
    static OrphanRuntime busy() {
        OrphanRuntime x = new OrphanRuntime();
        bring(x, 1, 5);
        x.lose(1);
        bring(x, 0, 5);
        x.checkpoint(0);
        bring(x, 0, 7);
        x.release(0);
        bring(x, 0, 4);
        bring(x, 2, 8);
        x.checkpoint(2);
        x.deliver(3);
        x.deliver(9);
        x.deliver(6);
        x.crash(1);
        x.restart(1);
        x.learn(0);
        x.deliver(11);
        bring(x, 0, 15);
        x.deliver(14);
        x.crash(0);
        x.restart(0);
        x.deliver(16);
        x.crash(1);
        x.input(2, 5);
        x.input(1, 6);
        return x;
    }

    /**
     * All 24 inputs, all 40 intervals and all 104 messages that there can be: every state ends with
     * the bits 11, so that every interval sends two. Interval k below 24 is of process k % 3 and sends
     * messages 24 + 2 * k and 25 + 2 * k; the latter are TAKEN for k below 16, all other sent ones wait.
     */
    static OrphanRuntime full() {
        OrphanRuntime x = new OrphanRuntime();
        for (int k = 0; k < 24; k++) {
            x.input(k % 3, k < 3 ? 11 : 11 - 31 * 11);
        }
        for (int k = 0; k < 24; k++) {
            x.deliver(k);
        }
        for (int k = 0; k < 16; k++) {
            x.deliver(25 + 2 * k);
        }
        return x;
    }
}
