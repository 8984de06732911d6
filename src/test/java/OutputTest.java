/** Promises 12 to 14: release, released and outputs. */
final class OutputTest {
    private static final Due DUE = new Due("OutputTest");

    public static void main(String[] args) {
        releasesByTheThirdBit();
        releasesInOrderAndOnce();
        waitsForItself();
        waitsForTheSource();
        waitsForTheSourceOfTheSource();
        waitsForAllBefore();
        releasesEqualStates();
        releasesWhatIsReceivedAgain();
        doesNotFlush();
        neverReleasesOrphans();
        keepsWhatWasReleased();
        refused();
        releasedWithoutOne();
        releasedOfEachProcess();
        DUE.end();
    }

    private static void releasesByTheThirdBit() {
        int[] states = {4, 5, 12, -1, Integer.MIN_VALUE + 4, 0, 3, 8, -8, Integer.MIN_VALUE};
        for (int k = 0; k < states.length; k++) {
            OrphanRuntime x = new OrphanRuntime();
            Runs.bring(x, 1, states[k]);
            DUE.is("release of " + states[k], x.release(1), k < 5 ? 1 : 0);
            DUE.is("outputs of " + states[k], x.outputs(1), k < 5 ? 1 : 0);
            DUE.is("released of " + states[k], x.released(1, 0), k < 5 ? states[k] : 0);
        }
    }

    private static void releasesInOrderAndOnce() {
        OrphanRuntime x = new OrphanRuntime();
        Runs.bring(x, 0, 20);
        Runs.bring(x, 0, 8);
        Runs.bring(x, 0, 12);
        DUE.is("two", x.release(0), 2);
        DUE.is("none again", x.release(0), 0);
        Runs.bring(x, 0, 4);
        DUE.is("not before release", x.outputs(0), 2);
        DUE.is("one more", x.release(0), 1);
        DUE.is("outputs", x.outputs(0), 3);
        DUE.is("released 0", x.released(0, 0), 20);
        DUE.is("released 1", x.released(0, 1), 12);
        DUE.is("released 2", x.released(0, 2), 4);
        DUE.is("other's", x.outputs(1) + x.outputs(2), 0);
    }

    /** State 9 of process 0 sends the value 4 to process 1. */
    private static OrphanRuntime outputNotStable() {
        OrphanRuntime x = new OrphanRuntime();
        Runs.bring(x, 0, 9);
        x.deliver(1);
        return x;
    }

    private static void waitsForItself() {
        OrphanRuntime x = outputNotStable();
        DUE.is("not stable", x.release(1), 0);
        x.flush(1);
        DUE.is("stable", x.release(1), 1);
        DUE.is("released", x.released(1, 0), 4);
    }

    /** Process 2's output is stable itself, but stands on process 1's interval that is not. */
    private static void waitsForTheSource() {
        OrphanRuntime x = Runs.oneUnstable();
        x.deliver(3);
        int m = Runs.bring(x, 2, 4);
        DUE.is("process 2 is flushed", x.flush(2), 0);
        DUE.is("process 1 is not stable", x.release(2), 0);
        x.flush(1);
        DUE.is("process 1 is stable", x.release(2), 1);
        DUE.is("released", x.released(2, 0), 4);
        DUE.is("taken", x.status(m), 1);
    }

    /** Process 0's output is stable, and so is process 2's interval below it, but not process 1's below that. */
    private static void waitsForTheSourceOfTheSource() {
        OrphanRuntime x = Runs.oneOrphan();
        int m = Runs.bring(x, 2, 9) + 1;
        DUE.is("received", x.deliver(m), 4);
        Runs.bring(x, 0, 4);
        DUE.is("processes 0 and 2 are stable", x.flush(0) + x.flush(2), 0);
        DUE.is("process 1 is not", x.release(0), 0);
        DUE.is("process 1 becomes stable", x.flush(1), 1);
        DUE.is("now", x.release(0), 1);
        DUE.is("released", x.released(0, 0), 4);
    }

    /** An output is an interval's: two intervals with the same state have two. */
    private static void releasesEqualStates() {
        OrphanRuntime x = new OrphanRuntime();
        Runs.bring(x, 0, 4);
        Runs.bring(x, 0, 4);
        DUE.is("two", x.release(0), 2);
        Runs.bring(x, 0, 4);
        DUE.is("a third", x.release(0), 1);
        DUE.is("no fourth", x.release(0), 0);
        DUE.is("outputs", x.outputs(0), 3);
    }

    private static void releasesWhatIsReceivedAgain() {
        OrphanRuntime x = outputNotStable();
        DUE.is("lost", x.crash(1), 1);
        x.restart(1);
        DUE.is("a lost one is not released", x.release(1), 0);
        x.resend(0);
        x.deliver(1);
        x.flush(1);
        DUE.is("the new one is", x.release(1), 1);
        DUE.is("once", x.release(1), 0);
    }

    private static void doesNotFlush() {
        OrphanRuntime x = outputNotStable();
        x.release(1);
        DUE.is("still not stable", x.flush(1), 1);
    }

    private static void waitsForAllBefore() {
        OrphanRuntime x = new OrphanRuntime();
        Runs.bring(x, 1, 4);
        Runs.bring(x, 0, 3);
        x.deliver(2);
        DUE.is("the state behind has an output", x.state(1) & 4, 4);
        DUE.is("only the stable one", x.release(1), 1);
        x.flush(1);
        DUE.is("the other one", x.release(1), 1);
        DUE.is("released 0", x.released(1, 0), 4);
        DUE.is("released 1", x.released(1, 1), 31 * 4 + 1);
    }

    private static void neverReleasesOrphans() {
        OrphanRuntime x = Runs.oneOrphan();
        Runs.bring(x, 2, 4);
        x.crash(1);
        DUE.is("it depends on a lost one", x.release(2), 0);
        x.restart(1);
        x.flush(1);
        DUE.is("still", x.release(2), 0);
        x.learn(2);
        DUE.is("undone", x.release(2), 0);
        DUE.is("outputs", x.outputs(2), 0);
    }

    private static void keepsWhatWasReleased() {
        OrphanRuntime x = new OrphanRuntime();
        Runs.bring(x, 0, 4);
        x.release(0);
        Runs.bring(x, 0, 12);
        x.crash(0);
        DUE.is("outputs while down", x.outputs(0), 1);
        DUE.is("released while down", x.released(0, 0), 4);
        x.restart(0);
        DUE.is("only the one that was not", x.release(0), 1);
        DUE.is("released 1", x.released(0, 1), 12);
    }

    private static void refused() {
        OrphanRuntime x = new OrphanRuntime();
        Runs.bring(x, 0, 4);
        for (int p : Runs.NO_PROCESSES) {
            DUE.is("release " + p, x.release(p), -1);
            DUE.is("outputs " + p, x.outputs(p), -1);
            DUE.is("released " + p, x.released(p, 0), 0);
        }
        x.crash(0);
        DUE.is("down", x.release(0), -1);
        DUE.is("nothing released", x.outputs(0), 0);
        x.restart(0);
        DUE.is("up", x.release(0), 1);
    }

    private static void releasedWithoutOne() {
        OrphanRuntime x = new OrphanRuntime();
        Runs.bring(x, 0, 4);
        DUE.is("before release", x.released(0, 0), 0);
        x.release(0);
        int[] none = {-1, 1, 39, 40, 41, Integer.MIN_VALUE, Integer.MAX_VALUE};
        for (int k : none) {
            DUE.is("released " + k, x.released(0, k), 0);
        }
        DUE.is("released 0", x.released(0, 0), 4);
    }

    /** 'The k-th output (from 0) that p released': the first, the last, and none on either side. */
    private static void releasedOfEachProcess() {
        for (int p = 0; p < 3; p++) {
            OrphanRuntime x = new OrphanRuntime();
            for (int k = 0; k < 24; k++) {
                Runs.bring(x, p, 4 + 8 * k);
            }
            DUE.is("release", x.release(p), 24);
            DUE.is("outputs", x.outputs(p), 24);
            DUE.is("before the first", x.released(p, -1), 0);
            for (int k = 0; k < 24; k++) {
                DUE.is("released " + k, x.released(p, k), 4 + 8 * k);
            }
            DUE.is("behind the last", x.released(p, 24), 0);
            DUE.is("another's", x.released((p + 1) % 3, 0) + x.released((p + 2) % 3, 0), 0);
        }
    }
}
