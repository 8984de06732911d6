/** Promises 7 to 10, 15, 16 and 20: flush, checkpoint, crash, restart, state, length and replayed. */
final class LogTest {
    private static final Due DUE = new Due("LogTest");

    public static void main(String[] args) {
        flushes();
        outsideFlushesAll();
        checkpointFlushes();
        checkpointKeepsTwo();
        checkpointOfTheSameLengthIsOne();
        checkpointThatIsTooLongIsDropped();
        checkpointOfAnEmptyChain();
        crashLosesWhatIsNotStable();
        crashTwice();
        restarts();
        restartLearnsOneAfterTheOther();
        restartUndoesAndReplaysOnce();
        stateAndLength();
        replayedGrows();
        wrongProcesses();
        refusedWhenDown();
        DUE.end();
    }

    private static void flushes() {
        OrphanRuntime x = Runs.oneUnstable();
        DUE.is("from outside is stable", x.flush(0), 0);
        DUE.is("sent is not", x.flush(1), 1);
        DUE.is("now it is", x.flush(1), 0);
        DUE.is("nothing is lost", x.crash(1), 0);
        DUE.is("the chain stays", x.restart(1), 1);
    }

    private static void outsideFlushesAll() {
        OrphanRuntime x = Runs.oneUnstable();
        Runs.bring(x, 1, 8);
        DUE.is("all before it are stable", x.flush(1), 0);
        DUE.is("nothing is lost", x.crash(1), 0);
        DUE.is("both stay", x.restart(1), 2);
        DUE.is("another process is not flushed", x.deliver(3) + x.flush(2), 4);
    }

    private static void checkpointFlushes() {
        OrphanRuntime x = Runs.oneUnstable();
        DUE.is("length", x.checkpoint(1), 1);
        DUE.is("flushed", x.flush(1), 0);
        x.crash(1);
        x.restart(1);
        DUE.is("nothing is played again", x.replayed(1), 0);
    }

    /** Process 2 has one receipt from outside, then one of process 1's lost interval, then one more. */
    private static OrphanRuntime undoneToOne(int... checkpointsAt) {
        OrphanRuntime x = Runs.oneUnstable();
        checkpointIf(x, 0, checkpointsAt);
        Runs.bring(x, 2, 8);
        checkpointIf(x, 1, checkpointsAt);
        x.deliver(3);
        checkpointIf(x, 2, checkpointsAt);
        Runs.bring(x, 2, 8);
        checkpointIf(x, 3, checkpointsAt);
        x.crash(1);
        x.restart(1);
        DUE.is("undone", x.learn(2), 2);
        DUE.is("length then", x.length(2), 1);
        return x;
    }

    private static void checkpointIf(OrphanRuntime x, int length, int... checkpointsAt) {
        for (int at : checkpointsAt) {
            if (at == length) {
                DUE.is("checkpoint", x.checkpoint(2), length);
            }
        }
    }

    private static void checkpointKeepsTwo() {
        DUE.is("none", undoneToOne().replayed(2), 1);
        DUE.is("1", undoneToOne(1).replayed(2), 0);
        DUE.is("1, 2", undoneToOne(1, 2).replayed(2), 0);
        DUE.is("1, 3", undoneToOne(1, 3).replayed(2), 0);
        DUE.is("1, 2, 3: 1 is no more kept", undoneToOne(1, 2, 3).replayed(2), 1);
        DUE.is("0, 1, 2", undoneToOne(0, 1, 2).replayed(2), 0);
        DUE.is("3", undoneToOne(3).replayed(2), 1);
        DUE.is("2, 3", undoneToOne(2, 3).replayed(2), 1);
    }

    private static void checkpointOfTheSameLengthIsOne() {
        DUE.is("1, 2, 2", undoneToOne(1, 2, 2).replayed(2), 0);
        DUE.is("1, 3, 3, 3", undoneToOne(1, 3, 3, 3).replayed(2), 0);
        DUE.is("1, 1, 1", undoneToOne(1, 1, 1).replayed(2), 0);
    }

    private static void checkpointThatIsTooLongIsDropped() {
        OrphanRuntime x = undoneToOne(1, 3);
        Runs.bring(x, 2, 8);
        Runs.bring(x, 2, 8);
        Runs.bring(x, 2, 8);
        x.crash(2);
        DUE.is("longer again", x.restart(2), 4);
        DUE.is("3 was dropped for good, 1 is the latest", x.replayed(2), 3);
        x.checkpoint(2);
        x.crash(2);
        x.restart(2);
        DUE.is("4 is the latest", x.replayed(2), 3);
    }

    private static void checkpointOfAnEmptyChain() {
        OrphanRuntime x = new OrphanRuntime();
        DUE.is("empty", x.checkpoint(0), 0);
        DUE.is("empty again", x.checkpoint(0), 0);
        Runs.bring(x, 0, 8);
        x.crash(0);
        x.restart(0);
        DUE.is("all is played again", x.replayed(0), 1);
    }

    private static void crashLosesWhatIsNotStable() {
        OrphanRuntime x = new OrphanRuntime();
        Runs.bring(x, 0, 1);
        Runs.bring(x, 0, 1);
        Runs.bring(x, 0, 1);
        x.deliver(1);
        x.flush(1);
        x.deliver(3);
        x.deliver(5);
        DUE.is("two are lost", x.crash(1), 2);
        DUE.is("stable: TAKEN", x.status(1), 1);
        DUE.is("lost: MISSING", x.status(3), 2);
        DUE.is("lost: MISSING too", x.status(5), 2);
        DUE.is("down: crash", x.crash(1), -1);
        DUE.is("one stays", x.restart(1), 1);
        DUE.is("numbers go on", x.resend(0) * 10 + x.deliver(3), 26);
    }

    private static void crashTwice() {
        OrphanRuntime x = Runs.oneOrphan();
        DUE.is("first crash", x.crash(1), 1);
        DUE.is("restart", x.restart(1), 0);
        DUE.is("second crash", x.crash(1), 0);
        DUE.is("second restart", x.restart(1), 0);
        DUE.is("two announcements", x.known(1), 2);
        DUE.is("the first is about the first crash", x.learn(2), 1);
        DUE.is("the second is about nothing", x.learn(2), 0);
        DUE.is("no third", x.learn(2), -1);
    }

    private static void restarts() {
        OrphanRuntime x = new OrphanRuntime();
        DUE.is("up", x.restart(0), -1);
        Runs.bring(x, 0, 9);
        x.crash(0);
        DUE.is("length", x.restart(0), 1);
        DUE.is("up again", x.restart(0), -1);
        DUE.is("one announcement", x.known(0), 1);
        DUE.is("state", x.state(0), 9);
        x.crash(1);
        DUE.is("the other one", x.restart(1), 0);
        DUE.is("learned all", x.known(1), 2);
        DUE.is("not by the first", x.known(0), 1);
    }

    private static void restartLearnsOneAfterTheOther() {
        OrphanRuntime x = Runs.twoLost();
        DUE.is("both stable", x.crash(2), 0);
        DUE.is("both undone", x.restart(2), 0);
        DUE.is("learned three", x.known(2), 3);
        DUE.is("its source was known to be lost", x.status(6), 3);
        DUE.is("its source was not yet known to be lost", x.status(5), 0);
        DUE.is("now it is", x.deliver(5), -3);
    }

    private static void restartUndoesAndReplaysOnce() {
        OrphanRuntime x = Runs.oneUnstable();
        Runs.bring(x, 2, 8);
        Runs.bring(x, 2, 8);
        x.deliver(3);
        x.checkpoint(2);
        x.crash(1);
        x.restart(1);
        x.crash(2);
        DUE.is("undone", x.restart(2), 2);
        DUE.is("once, without the checkpoint that was dropped", x.replayed(2), 2);
    }

    private static void stateAndLength() {
        OrphanRuntime x = new OrphanRuntime();
        Runs.bring(x, 0, 16);
        x.input(0, 5);
        DUE.is("waiting changes nothing", x.state(0), 16);
        x.deliver(1);
        DUE.is("31 * 16 + 5", x.state(0), 501);
        DUE.is("length", x.length(0), 2);
        DUE.is("other's length", x.length(1), 0);
        x.deliver(2);
        DUE.is("501 >> 1", x.state(1), 250);
        x.crash(1);
        DUE.is("down: state", x.state(1), 0);
        DUE.is("down: length", x.length(1), -1);
        x.restart(1);
        DUE.is("lost: state", x.state(1), 0);
        DUE.is("lost: length", x.length(1), 0);
        x.crash(0);
        DUE.is("down: state of a chain", x.state(0), 0);
        DUE.is("down: length of a chain", x.length(0), -1);
        x.restart(0);
        DUE.is("stable: state", x.state(0), 501);
        DUE.is("stable: length", x.length(0), 2);
    }

    private static void replayedGrows() {
        OrphanRuntime x = new OrphanRuntime();
        Runs.bring(x, 0, 8);
        Runs.bring(x, 0, 8);
        x.crash(0);
        DUE.is("not by the crash", x.replayed(0), 0);
        x.restart(0);
        DUE.is("by the restart", x.replayed(0), 2);
        x.restart(0);
        DUE.is("not by a refused one", x.replayed(0), 2);
        x.checkpoint(0);
        Runs.bring(x, 0, 8);
        x.crash(0);
        x.restart(0);
        DUE.is("less the checkpoint", x.replayed(0), 3);
        x.crash(1);
        x.restart(1);
        x.learn(0);
        DUE.is("not when nothing is undone", x.replayed(0), 3);
        DUE.is("not the other one's", x.replayed(1), 0);
        x.crash(0);
        DUE.is("while down", x.replayed(0), 3);
    }

    private static void wrongProcesses() {
        OrphanRuntime x = Runs.oneUnstable();
        for (int p : Runs.NO_PROCESSES) {
            DUE.is("flush " + p, x.flush(p), -1);
            DUE.is("checkpoint " + p, x.checkpoint(p), -1);
            DUE.is("crash " + p, x.crash(p), -1);
            DUE.is("restart " + p, x.restart(p), -1);
            DUE.is("state " + p, x.state(p), 0);
            DUE.is("length " + p, x.length(p), -1);
            DUE.is("replayed " + p, x.replayed(p), -1);
        }
        DUE.is("nothing became stable or was lost", x.crash(1), 1);
        DUE.is("no announcement was made", x.restart(1) + x.known(1), 1);
    }

    private static void refusedWhenDown() {
        OrphanRuntime x = Runs.oneUnstable();
        Runs.bring(x, 0, 8);
        x.crash(0);
        DUE.is("flush", x.flush(0), -1);
        DUE.is("checkpoint", x.checkpoint(0), -1);
        x.restart(0);
        DUE.is("no checkpoint was kept", x.replayed(0), 2);
    }
}
