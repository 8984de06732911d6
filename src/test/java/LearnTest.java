/** Promises 11, 17 and 19: learn, known and orphans. */
final class LearnTest {
    private static final Due DUE = new Due("LearnTest");

    public static void main(String[] args) {
        undoes();
        undoesAllBehind();
        undoesNothingWithoutNeed();
        undoesByWhatTheSourceDependsOn();
        learnsInOrder();
        doesNotFlush();
        returnsWhatComesFromOutside();
        returnsWhatHasASoundSource();
        discardsByEarlierAnnouncements();
        refused();
        knows();
        countsOrphans();
        countsOrphansOfThoseUp();
        countsOrphansBehindOrphans();
        countsNoLostOnes();
        forgetsNone();
        DUE.end();
    }

    private static void undoes() {
        OrphanRuntime x = Runs.oneOrphan();
        x.flush(2);
        x.crash(1);
        x.restart(1);
        DUE.is("a stable one is undone", x.learn(2), 1);
        DUE.is("length", x.length(2), 0);
        DUE.is("state", x.state(2), 0);
        DUE.is("known", x.known(2), 1);
        DUE.is("its message", x.status(3), 3);
        DUE.is("replayed", x.replayed(2), 0);
    }

    private static void undoesAllBehind() {
        OrphanRuntime x = Runs.oneUnstable();
        Runs.bring(x, 2, 16);
        x.deliver(3);
        Runs.bring(x, 2, 8);
        x.deliver(2);
        x.crash(1);
        x.restart(1);
        DUE.is("the orphan and two behind it", x.learn(2), 3);
        DUE.is("the one before stays", x.length(2), 1);
        DUE.is("its state", x.state(2), 16);
        DUE.is("replayed", x.replayed(2), 1);
    }

    private static void undoesNothingWithoutNeed() {
        OrphanRuntime x = Runs.oneUnstable();
        x.deliver(2);
        x.crash(1);
        x.restart(1);
        DUE.is("process 2 stands on process 0 alone", x.learn(2), 0);
        DUE.is("length", x.length(2), 1);
        DUE.is("process 0 stands on itself", x.learn(0), 0);
        DUE.is("length of 0", x.length(0), 1);
        DUE.is("not replayed", x.replayed(0) + x.replayed(2), 0);
        DUE.is("not flushed", x.flush(2), 1);
    }

    /** Process 1's lost interval, then process 2 and then process 0, by way of process 2 alone. */
    private static void undoesByWhatTheSourceDependsOn() {
        OrphanRuntime x = Runs.oneUnstable();
        Runs.bring(x, 2, 9);
        x.deliver(3);
        DUE.is("31 * 9", x.state(2), 279);
        DUE.is("by way of process 2", x.deliver(6), 4);
        x.flush(2);
        x.flush(0);
        x.crash(1);
        DUE.is("two orphans", x.orphans(), 2);
        x.restart(1);
        DUE.is("process 0 undoes", x.learn(0), 1);
        DUE.is("its message's source depends on the lost one", x.status(6), 3);
        DUE.is("what is discarded is not sent again", x.resend(2), 0);
        DUE.is("it stays discarded", x.status(6), 3);
        DUE.is("process 2 undoes", x.learn(2), 1);
        DUE.is("no orphans", x.orphans(), 0);
    }

    private static void learnsInOrder() {
        OrphanRuntime x = Runs.twoLost();
        x.crash(1);
        x.restart(1);
        DUE.is("the first undoes both", x.learn(2), 2);
        DUE.is("known", x.known(2), 1);
        DUE.is("the second nothing", x.learn(2), 0);
        DUE.is("the third nothing", x.learn(2), 0);
        DUE.is("known then", x.known(2), 3);
        DUE.is("no more", x.learn(2), -1);
    }

    private static void doesNotFlush() {
        OrphanRuntime x = Runs.oneUnstable();
        x.deliver(2);
        x.deliver(3);
        x.crash(1);
        x.restart(1);
        DUE.is("undone", x.learn(2), 1);
        DUE.is("what stays is not stable", x.crash(2), 1);
    }

    private static void returnsWhatComesFromOutside() {
        OrphanRuntime x = Runs.oneOrphan();
        int m = Runs.bring(x, 2, 5);
        x.crash(1);
        x.restart(1);
        DUE.is("undone", x.learn(2), 2);
        DUE.is("from outside waits", x.status(m), 0);
        DUE.is("it is received again", x.deliver(m), 4);
        DUE.is("state", x.state(2), 5);
    }

    private static void returnsWhatHasASoundSource() {
        OrphanRuntime x = Runs.oneOrphan();
        x.deliver(2);
        x.crash(1);
        x.restart(1);
        DUE.is("undone", x.learn(2), 2);
        DUE.is("process 0's message waits", x.status(2), 0);
        DUE.is("process 1's message is discarded", x.status(3), 3);
        DUE.is("it is received again", x.deliver(2), 4);
    }

    /** Once both are learned, message 5 is an orphan; before, it waits. */
    private static void discardsByEarlierAnnouncements() {
        OrphanRuntime x = Runs.twoLost();
        x.learn(2);
        DUE.is("discarded by the first", x.status(6), 3);
        DUE.is("not yet known to be an orphan", x.status(5), 0);
        DUE.is("so it is received again", x.deliver(5), 6);
        DUE.is("and undone by the second", x.learn(2), 1);
        DUE.is("discarded by the second", x.status(5), 3);
    }

    private static void refused() {
        OrphanRuntime x = Runs.oneOrphan();
        DUE.is("no announcement", x.learn(2), -1);
        x.crash(1);
        DUE.is("lost, no announcement", x.learn(2), -1);
        DUE.is("down", x.learn(1), -1);
        x.restart(1);
        for (int p : Runs.NO_PROCESSES) {
            DUE.is("learn " + p, x.learn(p), -1);
        }
        DUE.is("learned by the restart", x.learn(1), -1);
        x.flush(2);
        x.crash(2);
        DUE.is("down with one to learn", x.learn(2), -1);
        DUE.is("known", x.known(2), 0);
        DUE.is("restart", x.restart(2), 0);
        DUE.is("known then", x.known(2), 2);
    }

    private static void knows() {
        OrphanRuntime x = new OrphanRuntime();
        x.crash(0);
        DUE.is("a crash announces nothing", x.known(0), 0);
        x.restart(0);
        x.crash(1);
        x.restart(1);
        DUE.is("process 0", x.known(0), 1);
        DUE.is("process 1", x.known(1), 2);
        DUE.is("process 2", x.known(2), 0);
        x.learn(2);
        DUE.is("process 2 after learning", x.known(2), 1);
        x.crash(2);
        DUE.is("while down, nothing forgotten", x.known(2), 1);
        x.restart(2);
        DUE.is("all", x.known(2), 3);
        for (int p : Runs.NO_PROCESSES) {
            DUE.is("known " + p, x.known(p), -1);
        }
    }

    private static void countsOrphans() {
        OrphanRuntime x = Runs.oneOrphan();
        DUE.is("nothing is lost", x.orphans(), 0);
        x.crash(1);
        DUE.is("before the announcement", x.orphans(), 1);
        x.restart(1);
        DUE.is("after it", x.orphans(), 1);
        x.learn(0);
        DUE.is("another process learns", x.orphans(), 1);
        x.learn(2);
        DUE.is("learned", x.orphans(), 0);
    }

    private static void countsOrphansOfThoseUp() {
        OrphanRuntime x = Runs.oneOrphan();
        x.flush(2);
        x.crash(2);
        x.crash(1);
        DUE.is("process 2 is down", x.orphans(), 0);
        x.restart(2);
        DUE.is("up, and it could not learn of it", x.orphans(), 1);
        x.restart(1);
        x.learn(2);
        DUE.is("learned", x.orphans(), 0);
    }

    private static void countsOrphansBehindOrphans() {
        OrphanRuntime x = Runs.oneUnstable();
        Runs.bring(x, 2, 16);
        x.deliver(3);
        Runs.bring(x, 2, 3);
        x.deliver(6);
        x.crash(1);
        DUE.is("two of process 2, one of process 0", x.orphans(), 3);
        x.crash(0);
        DUE.is("two of process 2", x.orphans(), 2);
    }

    /** A lost interval is on no chain, and all on a chain that is down are left out. */
    private static void countsNoLostOnes() {
        OrphanRuntime x = Runs.oneUnstable();
        DUE.is("lost", x.crash(1), 1);
        DUE.is("none stands on it", x.orphans(), 0);
        DUE.is("received when it was lost", x.deliver(3), 2);
        DUE.is("that one does", x.orphans(), 1);
        x.restart(1);
        DUE.is("announced", x.orphans(), 1);
        x.flush(2);
        DUE.is("stable", x.orphans(), 1);
        x.crash(2);
        DUE.is("down", x.orphans(), 0);
        x.crash(0);
        x.crash(1);
        DUE.is("all down", x.orphans(), 0);
    }

    /** '(A crash makes it forget none.)': nor what they were about. */
    private static void forgetsNone() {
        OrphanRuntime x = Runs.oneUnstable();
        x.crash(1);
        x.restart(1);
        x.learn(2);
        DUE.is("learned", x.known(2), 1);
        x.crash(2);
        DUE.is("while down", x.known(2), 1);
        DUE.is("the others'", x.known(0) * 10 + x.known(1), 1);
        x.restart(2);
        DUE.is("and its own", x.known(2), 2);
        DUE.is("it still knows what is lost", x.deliver(3), -3);
    }
}
