import java.util.function.Consumer;
import java.util.function.Supplier;
import java.util.function.ToIntFunction;

/**
 * 'A call that is refused changes nothing.' For each promise that refuses, each of its cases: the
 * answer, and a twin without the call that answers alike ever after.
 */
final class RefusedTest {
    private static final Due DUE = new Due("RefusedTest");

    public static void main(String[] args) {
        busyIsBusy();
        askingChangesNothing();
        inputForNoProcess();
        inputBeyondTheLast();
        deliverWhatIsNot();
        deliverWhatDoesNotWait();
        deliverToOneThatIsDown();
        deliverBeyondTheLastInterval();
        loseWhatIsNot();
        loseWhatDoesNotWait();
        loseFromOutside();
        noProcess();
        noProcessBesideAllUpOrDown();
        down();
        crashWhileDownKeepsWhatWasLost();
        restartWhenUp();
        learnWhenAllIsLearned();
        answersOfNoProcess();
        answersWhileDown();
        statusOfNoMessage();
        DUE.end();
    }

    /** The other tests are worth something only if this run has all that its comment says. */
    private static void busyIsBusy() {
        OrphanRuntime x = Runs.busy();
        String statuses = "";
        for (int m = 0; m < 21; m++) {
            statuses += "rWTMD".charAt(x.status(m) + 1);
        }
        DUE.is("statuses " + statuses, statuses.equals("TMTMTWTTTTWDWTMWTWWWr"), true);
        DUE.is("orphans", x.orphans(), 3);
        DUE.is("length of 0", x.length(0), 5);
        DUE.is("length of 1", x.length(1), -1);
        DUE.is("length of 2", x.length(2), 3);
        DUE.is("known by 0", x.known(0), 2);
        DUE.is("known by 1", x.known(1), 1);
        DUE.is("known by 2", x.known(2), 0);
        DUE.is("outputs of 0", x.outputs(0), 2);
        DUE.is("replayed by 0", x.replayed(0), 3);
        DUE.is("replayed by 1", x.replayed(1), 1);
        DUE.is("held", x.deliver(15), -2);
        DUE.is("not stable of 0", Runs.busy().flush(0), 1);
        DUE.is("not stable of 2", Runs.busy().flush(2), 2);
        DUE.is("not released", x.release(0), 2);
        DUE.is("undone by 2", x.learn(2), 2);
        DUE.is("restart", x.restart(1), 1);
        DUE.is("an output of 1", x.release(1), 1);
        DUE.is("undone by 0", x.learn(0), 1);
    }

    private static void refused(String what, Supplier<OrphanRuntime> run, ToIntFunction<OrphanRuntime> call) {
        DUE.is(what, call.applyAsInt(run.get()), -1);
        Twins.unchanged(DUE, what, run, x -> call.applyAsInt(x));
    }

    private static void refusedLose(String what, Supplier<OrphanRuntime> run, int m) {
        DUE.is(what, run.get().lose(m), false);
        Twins.unchanged(DUE, what, run, x -> x.lose(m));
    }

    private static void askingChangesNothing() {
        Consumer<OrphanRuntime> all = x -> {
            for (int p = -1; p < 4; p++) {
                x.released(p, 0);
                x.outputs(p);
                x.state(p);
                x.length(p);
                x.known(p);
                x.replayed(p);
                x.status(p);
            }
            x.orphans();
        };
        Twins.unchanged(DUE, "asking", Runs::busy, all);
    }

    /** Promise 3: 'REFUSED when p is not 0 .. 2'. */
    private static void inputForNoProcess() {
        for (int p : Runs.NO_PROCESSES) {
            refused("input for " + p, Runs::busy, x -> x.input(p, 7));
        }
    }

    /** Promise 3: 'or 24 messages from outside were made'. */
    private static void inputBeyondTheLast() {
        for (int p = 0; p < 3; p++) {
            int q = p;
            refused("25th input for " + p, Runs::full, x -> x.input(q, 7));
            refused("25th input while others wait, for " + p, RefusedTest::allInputsWait, x -> x.input(q, 7));
        }
        for (int p : Runs.NO_PROCESSES) {
            refused("25th input for " + p, Runs::full, x -> x.input(p, 7));
        }
    }

    private static OrphanRuntime allInputsWait() {
        OrphanRuntime x = new OrphanRuntime();
        for (int k = 0; k < 24; k++) {
            DUE.is("input " + k, x.input(k % 3, k), k);
        }
        return x;
    }

    /** Promise 4: 'REFUSED when there is no such message'. */
    private static void deliverWhatIsNot() {
        for (int m : Runs.NO_MESSAGES) {
            refused("deliver " + m, Runs::busy, x -> x.deliver(m));
        }
        refused("deliver the next number", Runs::busy, x -> x.deliver(20));
        refused("deliver 0 of none", OrphanRuntime::new, x -> x.deliver(0));
        refused("deliver before the first that waits", RefusedTest::allInputsWait, x -> x.deliver(-1));
        refused("deliver behind the last that waits", RefusedTest::allInputsWait, x -> x.deliver(24));
        refused("deliver behind the last that can be", Runs::full, x -> x.deliver(104));
    }

    /** Promise 4: 'it is not WAITING', each of them for a process that is up. */
    private static void deliverWhatDoesNotWait() {
        refused("TAKEN", Runs::busy, x -> x.deliver(9));
        refused("TAKEN from outside", Runs::busy, x -> x.deliver(4));
        refused("MISSING", Runs::busy, x -> x.deliver(1));
        refused("DISCARDED", Runs::busy, x -> x.deliver(11));
    }

    /** Promise 4: 'the process is down'. */
    private static void deliverToOneThatIsDown() {
        refused("down", Runs::busy, x -> x.deliver(5));
        refused("down, from outside", Runs::busy, x -> x.deliver(19));
    }

    /** Promise 4: 'or 40 intervals were made'. Messages 24, 26 and 28 are for processes 1, 2 and 0. */
    private static void deliverBeyondTheLastInterval() {
        for (int m = 24; m <= 28; m += 2) {
            int k = m;
            DUE.is("it waits", Runs.full().status(m), 0);
            refused("41st interval, by " + m, Runs::full, x -> x.deliver(k));
        }
    }

    /** Promise 5: 'refused with false when there is no such message'. */
    private static void loseWhatIsNot() {
        for (int m : Runs.NO_MESSAGES) {
            refusedLose("lose " + m, Runs::busy, m);
        }
        refusedLose("lose the next number", Runs::busy, 20);
        refusedLose("lose 0 of none", OrphanRuntime::new, 0);
        refusedLose("lose behind the last that can be", Runs::full, 104);
    }

    /** Promise 5: 'it is not WAITING'. */
    private static void loseWhatDoesNotWait() {
        refusedLose("lose TAKEN", Runs::busy, 9);
        refusedLose("lose MISSING", Runs::busy, 1);
        refusedLose("lose DISCARDED", Runs::busy, 11);
    }

    /** Promise 5: 'or it comes from outside'. */
    private static void loseFromOutside() {
        refusedLose("lose what waits from outside", Runs::busy, 18);
        refusedLose("lose what waits from outside for one that is down", Runs::busy, 19);
        refusedLose("lose TAKEN from outside", Runs::busy, 4);
        Supplier<OrphanRuntime> again = () -> {
            OrphanRuntime x = Runs.oneOrphan();
            Runs.bring(x, 2, 8);
            x.crash(1);
            x.restart(1);
            x.learn(2);
            return x;
        };
        DUE.is("it waits again", again.get().status(4), 0);
        refusedLose("lose what waits from outside again", again, 4);
    }

    /** Promises 6 to 12, 14, 16, 17, 20: 'REFUSED when p is not 0 .. 2'. */
    private static void noProcess() {
        for (int p : Runs.NO_PROCESSES) {
            refused("resend " + p, Runs::busy, x -> x.resend(p));
            refused("flush " + p, Runs::busy, x -> x.flush(p));
            refused("checkpoint " + p, Runs::busy, x -> x.checkpoint(p));
            refused("crash " + p, Runs::busy, x -> x.crash(p));
            refused("restart " + p, Runs::busy, x -> x.restart(p));
            refused("learn " + p, Runs::busy, x -> x.learn(p));
            refused("release " + p, Runs::busy, x -> x.release(p));
            refused("outputs " + p, Runs::busy, x -> x.outputs(p));
            refused("length " + p, Runs::busy, x -> x.length(p));
            refused("known " + p, Runs::busy, x -> x.known(p));
            refused("replayed " + p, Runs::busy, x -> x.replayed(p));
        }
    }

    /** The same with all up, so that no other reason stands beside, and with all down, for restart. */
    private static void noProcessBesideAllUpOrDown() {
        Supplier<OrphanRuntime> up = () -> {
            OrphanRuntime x = Runs.busy();
            x.restart(1);
            return x;
        };
        Supplier<OrphanRuntime> down = () -> {
            OrphanRuntime x = Runs.busy();
            x.crash(0);
            x.crash(2);
            return x;
        };
        for (int p : Runs.NO_PROCESSES) {
            refused("resend beside all up " + p, up, x -> x.resend(p));
            refused("flush beside all up " + p, up, x -> x.flush(p));
            refused("checkpoint beside all up " + p, up, x -> x.checkpoint(p));
            refused("crash beside all up " + p, up, x -> x.crash(p));
            refused("learn beside all up " + p, up, x -> x.learn(p));
            refused("release beside all up " + p, up, x -> x.release(p));
            refused("restart beside all down " + p, down, x -> x.restart(p));
        }
    }

    /** Promises 6 to 9, 11, 12, 16: 'or is down'. */
    private static void down() {
        refused("resend when down", Runs::busy, x -> x.resend(1));
        refused("flush when down", Runs::busy, x -> x.flush(1));
        refused("checkpoint when down", Runs::busy, x -> x.checkpoint(1));
        refused("crash when down", Runs::busy, x -> x.crash(1));
        refused("learn when down", Runs::busy, x -> x.learn(1));
        refused("release when down", Runs::busy, x -> x.release(1));
        refused("length when down", Runs::busy, x -> x.length(1));
        for (int p = 0; p < 3; p++) {
            int q = p;
            Supplier<OrphanRuntime> oneDown = () -> {
                OrphanRuntime x = new OrphanRuntime();
                x.crash(q);
                return x;
            };
            refused("crash when down, empty, " + p, oneDown, x -> x.crash(q));
            refused("checkpoint when down, empty, " + p, oneDown, x -> x.checkpoint(q));
            refused("resend when down, empty, " + p, oneDown, x -> x.resend(q));
            refused("flush when down, empty, " + p, oneDown, x -> x.flush(q));
            refused("release when down, empty, " + p, oneDown, x -> x.release(q));
            refused("length when down, empty, " + p, oneDown, x -> x.length(q));
            refused("learn when down, empty, " + p, oneDown, x -> x.learn(q));
        }
    }

    /** What a refused crash loses is not the latest crash's: the announcement is about the one before. */
    private static void crashWhileDownKeepsWhatWasLost() {
        OrphanRuntime x = Runs.oneOrphan();
        x.crash(1);
        DUE.is("refused", x.crash(1), -1);
        x.restart(1);
        DUE.is("the announcement is about what was lost", x.learn(2), 1);
    }

    /** Promise 10: 'REFUSED when p is not 0 .. 2 or is up'. */
    private static void restartWhenUp() {
        refused("restart 0", Runs::busy, x -> x.restart(0));
        refused("restart 2", Runs::busy, x -> x.restart(2));
        for (int p = 0; p < 3; p++) {
            int q = p;
            refused("restart a new " + p, OrphanRuntime::new, x -> x.restart(q));
        }
        Supplier<OrphanRuntime> upAgain = () -> {
            OrphanRuntime x = Runs.oneOrphan();
            x.crash(1);
            x.restart(1);
            return x;
        };
        refused("restart twice", upAgain, x -> x.restart(1));
    }

    /** Promise 11: 'or has learned all': none is made, all are learned, its own restart learned them. */
    private static void learnWhenAllIsLearned() {
        for (int p = 0; p < 3; p++) {
            int q = p;
            refused("learn of none, " + p, OrphanRuntime::new, x -> x.learn(q));
        }
        refused("all learned, one lost without announcement", Runs::busy, x -> x.learn(0));
        Supplier<OrphanRuntime> learned = () -> {
            OrphanRuntime x = Runs.busy();
            DUE.is("first", x.learn(2), 2);
            DUE.is("second", x.learn(2), 0);
            return x;
        };
        refused("both learned", learned, x -> x.learn(2));
        Supplier<OrphanRuntime> restarted = () -> {
            OrphanRuntime x = Runs.busy();
            x.restart(1);
            return x;
        };
        refused("learned by the restart", restarted, x -> x.learn(1));
    }

    /** Promises 13 and 15: 0; promises 14, 16, 17, 20: REFUSED; while the nearest processes have other answers. */
    private static void answersOfNoProcess() {
        OrphanRuntime x = new OrphanRuntime();
        for (int p = 0; p < 3; p++) {
            Runs.bring(x, p, 12);
            x.release(p);
            x.crash(p);
            x.restart(p);
        }
        DUE.is("released of 0", x.released(0, 0), 12);
        DUE.is("released of 2", x.released(2, 0), 12);
        DUE.is("replayed of 0", x.replayed(0), 1);
        DUE.is("replayed of 2", x.replayed(2), 1);
        for (int p : Runs.NO_PROCESSES) {
            DUE.is("released " + p, x.released(p, 0), 0);
            DUE.is("outputs " + p, x.outputs(p), -1);
            DUE.is("state " + p, x.state(p), 0);
            DUE.is("length " + p, x.length(p), -1);
            DUE.is("known " + p, x.known(p), -1);
            DUE.is("replayed " + p, x.replayed(p), -1);
        }
    }

    /** Promise 15: '0 when .. is down', promise 16: REFUSED; promises 13, 14, 17, 20 do not ask whether p is up. */
    private static void answersWhileDown() {
        for (int p = 0; p < 3; p++) {
            OrphanRuntime x = new OrphanRuntime();
            Runs.bring(x, p, 12);
            x.release(p);
            x.crash(p);
            x.restart(p);
            x.crash(p);
            DUE.is("state of " + p, x.state(p), 0);
            DUE.is("length of " + p, x.length(p), -1);
            DUE.is("released of " + p, x.released(p, 0), 12);
            DUE.is("outputs of " + p, x.outputs(p), 1);
            DUE.is("known by " + p, x.known(p), 1);
            DUE.is("replayed by " + p, x.replayed(p), 1);
            x.restart(p);
            DUE.is("state of " + p + " when up", x.state(p), 12);
            DUE.is("length of " + p + " when up", x.length(p), 1);
        }
    }

    /** Promise 18: 'REFUSED when there is no such message'. */
    private static void statusOfNoMessage() {
        DUE.is("0 of none", new OrphanRuntime().status(0), -1);
        OrphanRuntime x = Runs.busy();
        for (int m : Runs.NO_MESSAGES) {
            DUE.is("status " + m, x.status(m), -1);
        }
        DUE.is("the last", x.status(19), 0);
        DUE.is("the next number", x.status(20), -1);
        DUE.is("the last that can be", Runs.full().status(103), 0);
        DUE.is("behind the last that can be", Runs.full().status(104), -1);
    }
}
