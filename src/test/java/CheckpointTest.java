/** Promises 8 and 20 at their edges: which checkpoints are kept, and what a replay adds. */
final class CheckpointTest {
    private static final Due DUE = new Due("CheckpointTest");

    public static void main(String[] args) {
        thatAlready();
        thatAlreadyAfterARestart();
        asLongAsTheChainStays();
        oneDropped();
        bothDropped();
        droppedLengthIsKeptAnew();
        anotherBehindTheOneThatStayed();
        othersStay();
        refusedOneKeepsTheOlder();
        noneKept();
        nothingUndoneAddsNothing();
        allUndoneAddsNothing();
        restartAddsOnce();
        restartAddsWithoutLoss();
        DUE.end();
    }

    /** Process 2 receives from outside, so that the chain is longer by one. */
    private static void grow(OrphanRuntime x) {
        Runs.bring(x, 2, 8);
    }

    /** Process 2 receives message m of process 1's interval that is not stable. */
    private static void growByOrphan(OrphanRuntime x, int m) {
        DUE.is("received", x.deliver(m) >= 0, true);
    }

    /** Process 1 loses what it has, and process 2 learns it. */
    private static void undo(OrphanRuntime x, int due, int length) {
        x.crash(1);
        x.restart(1);
        DUE.is("undone", x.learn(2), due);
        DUE.is("length", x.length(2), length);
    }

    /** What a restart of process 2 would add now: it tells the latest checkpoint. */
    private static int latest(OrphanRuntime x) {
        int before = x.replayed(2);
        x.crash(2);
        int length = x.restart(2);
        return length - (x.replayed(2) - before);
    }

    /** '(when it is that already, the checkpoints stay as they are)': 1 and 2 are kept, not 2 and 2. */
    private static void thatAlready() {
        OrphanRuntime x = Runs.oneUnstable();
        grow(x);
        DUE.is("1", x.checkpoint(2), 1);
        growByOrphan(x, 3);
        DUE.is("2", x.checkpoint(2), 2);
        DUE.is("2 again", x.checkpoint(2), 2);
        DUE.is("2 once more", x.checkpoint(2), 2);
        undo(x, 1, 1);
        DUE.is("1 was still kept", x.replayed(2), 0);
        DUE.is("latest", latest(x), 1);
    }

    private static void thatAlreadyAfterARestart() {
        OrphanRuntime x = Runs.oneUnstable();
        grow(x);
        x.checkpoint(2);
        growByOrphan(x, 3);
        x.checkpoint(2);
        DUE.is("latest", latest(x), 2);
        DUE.is("2 again", x.checkpoint(2), 2);
        undo(x, 1, 1);
        DUE.is("latest then", latest(x), 1);
    }

    /** 'Those that are longer than the chain has become': one of the same length is not. */
    private static void asLongAsTheChainStays() {
        OrphanRuntime x = Runs.oneUnstable();
        grow(x);
        grow(x);
        x.checkpoint(2);
        growByOrphan(x, 3);
        undo(x, 1, 2);
        DUE.is("2 of 2", latest(x), 2);
    }

    private static void oneDropped() {
        OrphanRuntime x = Runs.oneUnstable();
        grow(x);
        x.checkpoint(2);
        grow(x);
        growByOrphan(x, 3);
        x.checkpoint(2);
        undo(x, 1, 2);
        DUE.is("1 of 2", latest(x), 1);
        DUE.is("replayed by the undoing and by the restart", x.replayed(2), 2);
    }

    private static void bothDropped() {
        OrphanRuntime x = Runs.oneUnstable();
        grow(x);
        growByOrphan(x, 3);
        x.checkpoint(2);
        grow(x);
        x.checkpoint(2);
        undo(x, 2, 1);
        DUE.is("replayed, less 0", x.replayed(2), 1);
        DUE.is("none", latest(x), 0);
    }

    private static void droppedLengthIsKeptAnew() {
        OrphanRuntime x = Runs.oneUnstable();
        grow(x);
        growByOrphan(x, 3);
        DUE.is("2", x.checkpoint(2), 2);
        undo(x, 1, 1);
        grow(x);
        DUE.is("2 is not kept", latest(x), 0);
        DUE.is("2 anew", x.checkpoint(2), 2);
        DUE.is("2 is kept", latest(x), 2);
    }

    /** 1 and 2; 2 is dropped; 2 is made anew; it is dropped again, and 1 is there still. */
    private static void anotherBehindTheOneThatStayed() {
        OrphanRuntime x = Runs.oneUnstable();
        grow(x);
        x.checkpoint(2);
        growByOrphan(x, 3);
        x.checkpoint(2);
        undo(x, 1, 1);
        DUE.is("process 1 receives again", x.resend(0), 1);
        DUE.is("its interval", x.deliver(1), 4);
        growByOrphan(x, 5);
        x.checkpoint(2);
        DUE.is("2 is kept", latest(x), 2);
        undo(x, 1, 1);
        DUE.is("1 is kept", latest(x), 1);
    }

    /** What process 2 undoes drops no checkpoint of process 0. */
    private static void othersStay() {
        OrphanRuntime x = Runs.oneUnstable();
        x.checkpoint(0);
        growByOrphan(x, 3);
        x.checkpoint(2);
        undo(x, 1, 0);
        DUE.is("process 2 has none", latest(x), 0);
        x.crash(0);
        x.restart(0);
        DUE.is("process 0 has 1 of 1", x.replayed(0), 0);
    }

    /** A checkpoint that is refused neither becomes the latest one nor drives the older one out. */
    private static void refusedOneKeepsTheOlder() {
        OrphanRuntime x = Runs.oneUnstable();
        grow(x);
        x.checkpoint(2);
        growByOrphan(x, 3);
        x.checkpoint(2);
        grow(x);
        x.crash(2);
        DUE.is("down", x.checkpoint(2), -1);
        for (int p : Runs.NO_PROCESSES) {
            DUE.is("checkpoint " + p, x.checkpoint(p), -1);
        }
        x.restart(2);
        DUE.is("3 less 2", x.replayed(2), 1);
        undo(x, 2, 1);
        DUE.is("1 less 1", x.replayed(2), 1);
    }

    /** 'less 0 if none is', by a restart and by learning. */
    private static void noneKept() {
        OrphanRuntime x = Runs.oneUnstable();
        grow(x);
        grow(x);
        x.crash(2);
        x.restart(2);
        DUE.is("by a restart", x.replayed(2), 2);
        growByOrphan(x, 3);
        undo(x, 1, 2);
        DUE.is("by learning", x.replayed(2), 4);
    }

    /** 'each call of learn(p) that undid intervals': one that undid none adds nothing. */
    private static void nothingUndoneAddsNothing() {
        OrphanRuntime x = Runs.oneUnstable();
        grow(x);
        grow(x);
        undo(x, 0, 2);
        DUE.is("nothing was lost that it depends on", x.replayed(2), 0);
        undo(x, 0, 2);
        DUE.is("nothing was lost", x.replayed(2), 0);
    }

    private static void allUndoneAddsNothing() {
        OrphanRuntime x = Runs.oneUnstable();
        growByOrphan(x, 3);
        grow(x);
        x.checkpoint(2);
        undo(x, 2, 0);
        DUE.is("0 less 0", x.replayed(2), 0);
    }

    /** Two announcements undo one interval each: the replay is counted after both. */
    private static void restartAddsOnce() {
        OrphanRuntime x = new OrphanRuntime();
        grow(x);
        x.deliver(x.input(0, 3));
        x.deliver(x.input(1, 6));
        DUE.is("process 0, not stable", x.deliver(5), 3);
        DUE.is("process 1, not stable", x.deliver(2), 4);
        DUE.is("process 2, on process 1", x.deliver(7), 5);
        DUE.is("process 2, on process 0", x.deliver(6), 6);
        x.checkpoint(2);
        DUE.is("process 0 loses", x.crash(0), 1);
        x.restart(0);
        DUE.is("process 1 loses", x.crash(1), 1);
        x.restart(1);
        x.crash(2);
        DUE.is("nothing added by then", x.replayed(2), 0);
        DUE.is("both undone", x.restart(2), 1);
        DUE.is("added once", x.replayed(2), 1);
    }

    /** 'each call of restart(p) that was not refused': though nothing was lost or undone. */
    private static void restartAddsWithoutLoss() {
        OrphanRuntime x = new OrphanRuntime();
        grow(x);
        for (int k = 1; k <= 3; k++) {
            DUE.is("nothing lost", x.crash(2), 0);
            DUE.is("all stays", x.restart(2), 1);
            DUE.is("refused", x.restart(2), -1);
            DUE.is("replayed", x.replayed(2), k);
        }
    }
}
