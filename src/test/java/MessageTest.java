/** Promises 3 to 6 and 18: input, deliver, lose, resend and status. */
final class MessageTest {
    private static final Due DUE = new Due("MessageTest");

    public static void main(String[] args) {
        inputNumbers();
        inputRefused();
        inputForOneThatIsDown();
        deliverSends();
        deliverSendsByBits();
        deliverShiftsWithSign();
        deliverWraps();
        deliverRefused();
        deliverHeld();
        deliverNotHeldByWhatTheSourceHasNotLearned();
        deliverOrphan();
        deliverWithoutLearningIsNoOrphan();
        deliverAtTheEndIsRefusedFirst();
        loses();
        loseRefused();
        resends();
        resendsWhatTheChainHas();
        resendRefused();
        statuses();
        knowsStaysWhenWaitingAgain();
        DUE.end();
    }

    private static void inputNumbers() {
        OrphanRuntime x = new OrphanRuntime();
        DUE.is("first input", x.input(0, 3), 0);
        DUE.is("second input", x.input(2, 0), 1);
        x.deliver(0);
        DUE.is("input after two were sent", x.input(1, 0), 4);
    }

    private static void inputRefused() {
        OrphanRuntime x = new OrphanRuntime();
        for (int p : Runs.NO_PROCESSES) {
            DUE.is("input for " + p, x.input(p, 1), -1);
        }
        DUE.is("no message was made", x.status(0), -1);
        for (int k = 0; k < 24; k++) {
            DUE.is("input " + k, x.input(k % 3, k), k);
        }
        for (int p = 0; p < 3; p++) {
            DUE.is("25th input for " + p, x.input(p, 1), -1);
        }
        DUE.is("no 25th message", x.status(24), -1);
        DUE.is("the 24th", x.status(23), 0);
    }

    private static void inputForOneThatIsDown() {
        OrphanRuntime x = new OrphanRuntime();
        x.crash(1);
        DUE.is("input while down", x.input(1, 9), 0);
        DUE.is("deliver while down", x.deliver(0), -1);
        DUE.is("it waits", x.status(0), 0);
        x.restart(1);
        DUE.is("deliver when up", x.deliver(0), 0);
        DUE.is("state", x.state(1), 9);
    }

    private static void deliverSends() {
        for (int p = 0; p < 3; p++) {
            OrphanRuntime x = new OrphanRuntime();
            x.input(p, 43);
            DUE.is("deliver", x.deliver(0), 0);
            DUE.is("two were sent", x.status(2), 0);
            DUE.is("no third", x.status(3), -1);
            DUE.is("first sent", x.deliver(1), 1);
            DUE.is("43 >> 1 to the next one", x.state((p + 1) % 3), 21);
            DUE.is("second sent", x.deliver(2), 2);
            DUE.is("43 >> 2 to the one after", x.state((p + 2) % 3), 10);
        }
    }

    private static void deliverSendsByBits() {
        int[] sent = {0, 1, 1, 2, 0, 1, 1, 2};
        for (int t = 0; t < 8; t++) {
            OrphanRuntime x = new OrphanRuntime();
            x.input(1, t + 8);
            x.deliver(0);
            DUE.is("next number after state " + (t + 8), x.input(0, 0), 1 + sent[t]);
            if (sent[t] == 1) {
                x.deliver(1);
                DUE.is("length of 2 after state " + (t + 8), x.length(2), (t & 1) != 0 ? 1 : 0);
                DUE.is("length of 0 after state " + (t + 8), x.length(0), (t & 1) != 0 ? 0 : 1);
            }
        }
    }

    private static void deliverShiftsWithSign() {
        OrphanRuntime x = new OrphanRuntime();
        x.input(2, -5);
        x.deliver(0);
        DUE.is("state", x.state(2), -5);
        x.deliver(1);
        DUE.is("-5 >> 1", x.state(0), -3);
        x.deliver(2);
        DUE.is("-5 >> 2", x.state(1), -2);
    }

    private static void deliverWraps() {
        OrphanRuntime x = new OrphanRuntime();
        x.input(0, Integer.MAX_VALUE);
        x.deliver(0);
        DUE.is("greatest", x.state(0), Integer.MAX_VALUE);
        x.input(0, Integer.MAX_VALUE);
        x.deliver(3);
        DUE.is("wrapped", x.state(0), 32 * Integer.MAX_VALUE);
        x.deliver(x.input(1, Integer.MIN_VALUE));
        DUE.is("least", x.state(1), Integer.MIN_VALUE);
    }

    private static void deliverRefused() {
        OrphanRuntime x = Runs.oneUnstable();
        for (int m : Runs.NO_MESSAGES) {
            DUE.is("deliver " + m, x.deliver(m), -1);
        }
        DUE.is("the next number", x.deliver(4), -1);
        DUE.is("TAKEN from outside", x.deliver(0), -1);
        DUE.is("TAKEN", x.deliver(1), -1);
        x.lose(2);
        DUE.is("MISSING", x.deliver(2), -1);
        x.crash(2);
        DUE.is("down", x.deliver(3), -1);
        DUE.is("it waits", x.status(3), 0);
        x.restart(2);
        DUE.is("up", x.deliver(3), 2);
    }

    private static void deliverHeld() {
        OrphanRuntime x = Runs.oneUnstable();
        x.crash(1);
        x.restart(1);
        x.resend(0);
        DUE.is("again", x.deliver(1), 2);
        DUE.is("the new one knows an announcement", x.deliver(4), -2);
        DUE.is("it waits", x.status(4), 0);
        DUE.is("nothing received", x.length(2), 0);
        DUE.is("still held", x.deliver(4), -2);
        x.crash(2);
        DUE.is("refused before held", x.deliver(4), -1);
        x.restart(2);
        DUE.is("no more held", x.deliver(4), 3);
        DUE.is("TAKEN", x.status(4), 1);
    }

    private static void deliverNotHeldByWhatTheSourceHasNotLearned() {
        OrphanRuntime x = new OrphanRuntime();
        x.crash(2);
        x.restart(2);
        int m = Runs.bring(x, 0, 1);
        DUE.is("neither has learned the announcement", x.deliver(m + 1), 1);
    }

    private static void deliverOrphan() {
        OrphanRuntime x = Runs.oneUnstable();
        x.crash(1);
        x.restart(1);
        x.learn(2);
        DUE.is("orphan", x.deliver(3), -3);
        DUE.is("discarded", x.status(3), 3);
        DUE.is("no receipt", x.length(2), 0);
        DUE.is("discarded is not waiting", x.deliver(3), -1);
        DUE.is("no interval was made", x.deliver(2), 2);
    }

    private static void deliverWithoutLearningIsNoOrphan() {
        OrphanRuntime x = Runs.oneUnstable();
        x.crash(1);
        DUE.is("lost, not announced", x.deliver(3), 2);
        DUE.is("an orphan", x.orphans(), 1);
        x = Runs.oneUnstable();
        x.crash(1);
        x.restart(1);
        DUE.is("announced, not learned", x.deliver(3), 2);
        DUE.is("an orphan too", x.orphans(), 1);
    }

    private static void deliverAtTheEndIsRefusedFirst() {
        OrphanRuntime x = Runs.oneUnstable();
        x.crash(1);
        x.restart(1);
        x.resend(0);
        x.deliver(1);
        int first = x.input(0, 3 - 93);
        for (int k = 1; k < 23; k++) {
            x.input(0, 3 - 93);
        }
        for (int k = 0; k < 23; k++) {
            DUE.is("receipt " + k, x.deliver(first + k), 3 + k);
        }
        for (int k = 0; k < 14; k++) {
            DUE.is("receipt of a sent one " + k, x.deliver(first + 23 + 2 * k), 26 + k);
        }
        DUE.is("at the end, else held", x.deliver(4), -1);
        x.learn(2);
        DUE.is("at the end, else an orphan", x.deliver(3), -1);
        DUE.is("it waits", x.status(3), 0);
        DUE.is("at the end", x.deliver(2), -1);
    }

    private static void loses() {
        OrphanRuntime x = Runs.oneUnstable();
        DUE.is("lose", x.lose(2), true);
        DUE.is("MISSING", x.status(2), 2);
        x.crash(2);
        DUE.is("lose for one that is down", x.lose(3), true);
        DUE.is("MISSING for one that is down", x.status(3), 2);
    }

    private static void loseRefused() {
        OrphanRuntime x = Runs.oneUnstable();
        for (int m : Runs.NO_MESSAGES) {
            DUE.is("lose " + m, x.lose(m), false);
        }
        DUE.is("lose the next number", x.lose(4), false);
        DUE.is("TAKEN", x.lose(1), false);
        DUE.is("still TAKEN", x.status(1), 1);
        x.lose(2);
        DUE.is("MISSING", x.lose(2), false);
        DUE.is("still MISSING", x.status(2), 2);
        int m = x.input(0, 1);
        DUE.is("from outside", x.lose(m), false);
        DUE.is("still WAITING", x.status(m), 0);
        x.crash(1);
        x.restart(1);
        x.learn(2);
        x.deliver(3);
        DUE.is("DISCARDED", x.lose(3), false);
        DUE.is("still DISCARDED", x.status(3), 3);
    }

    private static void resends() {
        OrphanRuntime x = Runs.oneUnstable();
        x.lose(2);
        x.lose(3);
        DUE.is("by another", x.resend(2), 0);
        DUE.is("by process 0", x.resend(0), 1);
        DUE.is("2 waits", x.status(2), 0);
        DUE.is("1 is still taken", x.status(1), 1);
        DUE.is("3 is still missing", x.status(3), 2);
        DUE.is("by process 1", x.resend(1), 1);
        DUE.is("3 waits", x.status(3), 0);
        DUE.is("nothing more", x.resend(0) + x.resend(1), 0);
        x.crash(1);
        x.lose(2);
        DUE.is("one lost, one of a lost receipt", x.resend(0), 2);
        DUE.is("1 waits for one that is down", x.status(1), 0);
    }

    private static void resendsWhatTheChainHas() {
        OrphanRuntime x = Runs.oneOrphan();
        x.lose(2);
        x.crash(2);
        DUE.is("of a lost receipt", x.status(3), 2);
        x.restart(2);
        x.crash(1);
        x.restart(1);
        DUE.is("the source is lost", x.resend(1), 0);
        DUE.is("it stays missing", x.status(3), 2);

        x = Runs.oneUnstable();
        int m = Runs.bring(x, 2, 1);
        x.deliver(3);
        Runs.bring(x, 2, 1);
        int ofUndone = m + 3;
        DUE.is("the undone one's message", x.lose(ofUndone), true);
        DUE.is("the first one's message", x.lose(m + 1), true);
        x.crash(1);
        x.restart(1);
        DUE.is("undone", x.learn(2), 2);
        DUE.is("the source is undone", x.resend(2), 1);
        DUE.is("it stays missing too", x.status(ofUndone), 2);
        DUE.is("the first one's waits", x.status(m + 1), 0);
    }

    private static void resendRefused() {
        OrphanRuntime x = Runs.oneUnstable();
        x.lose(2);
        for (int p : Runs.NO_PROCESSES) {
            DUE.is("resend " + p, x.resend(p), -1);
        }
        x.crash(0);
        DUE.is("down", x.resend(0), -1);
        DUE.is("still missing", x.status(2), 2);
        x.restart(0);
        DUE.is("up", x.resend(0), 1);
    }

    private static void statuses() {
        OrphanRuntime x = Runs.oneOrphan();
        for (int m : Runs.NO_MESSAGES) {
            DUE.is("status " + m, x.status(m), -1);
        }
        DUE.is("the next number", x.status(4), -1);
        DUE.is("WAITING", x.status(2), 0);
        DUE.is("TAKEN", x.status(3), 1);
        x.flush(2);
        x.crash(2);
        DUE.is("TAKEN while on a chain that is down", x.status(3), 1);
        x.restart(2);
        DUE.is("TAKEN after the restart", x.status(3), 1);
        x.crash(1);
        DUE.is("MISSING", x.status(1), 2);
        x.restart(1);
        DUE.is("TAKEN by an orphan", x.status(3), 1);
        x.learn(2);
        DUE.is("DISCARDED", x.status(3), 3);
    }

    private static void knowsStaysWhenWaitingAgain() {
        OrphanRuntime x = Runs.oneUnstable();
        x.crash(1);
        x.restart(1);
        x.learn(0);
        x.lose(2);
        x.resend(0);
        DUE.is("sent before the announcement, resent after", x.deliver(2), 2);
    }
}
