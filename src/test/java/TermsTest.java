/** The boundary cases that the section 'Terms' names, a test for each of its sentences. */
final class TermsTest {
    private static final Due DUE = new Due("TermsTest");

    public static void main(String[] args) {
        fortyIntervals();
        lostIntervalsCount();
        undoneIntervalsCount();
        twentyFourInputs();
        inputsThatWaitAgainCount();
        oneHundredAndFourMessages();
        emptyChain();
        emptyAgain();
        stateBeforeTheNext();
        wraps();
        negativeShifts();
        sendsRoundTheRing();
        sendsTheFirstFirst();
        negativeOutputs();
        outsideKnowsNothing();
        knowsWhatItsSourceHasLearned();
        knowsWhatItsSourceHadLearned();
        knowsTheSameAfterLose();
        knowsTheSameAfterACrash();
        knowsTheSameAfterUndoing();
        outsideDependsOnNothing();
        outsideFlushes();
        outsideFlushesAgain();
        announcementAboutNone();
        announcementAboutTheLatestCrash();
        firstThatDependsOnOneLostThere();
        noneDepends();
        noneOnTheChain();
        learnsInOrder();
        discardedByThisOne();
        waitingIfTheOtherIsNotLearned();
        waitingIfTheOtherIsNotAnnounced();
        waitingIfFromOutside();
        learningDoesNotFlush();
        DUE.end();
    }

    /** 'at most 40 are ever made'. */
    private static void fortyIntervals() {
        OrphanRuntime x = Runs.full();
        DUE.is("all are on chains", x.length(0) + x.length(1) + x.length(2), 40);
        for (int m = 0; m < 104; m++) {
            DUE.is("41st by " + m, x.deliver(m), -1);
        }
        for (int p = 0; p < 3; p++) {
            x.crash(p);
            x.restart(p);
            DUE.is("41st after a restart", x.deliver(24 + 2 * p), -1);
        }
    }

    /** 'ever': one message makes 39 intervals that are lost, one after the other. */
    private static void lostIntervalsCount() {
        OrphanRuntime x = new OrphanRuntime();
        Runs.bring(x, 0, 1);
        int made = 1;
        for (int k = 0; k < 39; k++) {
            DUE.is("deliver", x.deliver(1), made);
            made++;
            DUE.is("lost", x.crash(1), 1);
            x.restart(1);
            DUE.is("again", x.resend(0), 1);
        }
        DUE.is("all were made", made, 40);
        DUE.is("only one stands", x.length(0) + x.length(1) + x.length(2), 1);
        DUE.is("41st", x.deliver(1), -1);
        DUE.is("it waits", x.status(1), 0);
    }

    /** 'ever': what comes from outside is received and undone again and again. */
    private static void undoneIntervalsCount() {
        OrphanRuntime x = Runs.oneUnstable();
        int fromOutside = x.input(2, 8);
        int sent = 3;
        int made = 2;
        for (int k = 0; k < 12; k++) {
            DUE.is("the orphan", x.deliver(sent), made);
            DUE.is("behind it", x.deliver(fromOutside), made + 1);
            x.crash(1);
            x.restart(1);
            DUE.is("undone", x.learn(2), 2);
            x.resend(0);
            DUE.is("process 1 again", x.deliver(1), made + 2);
            made += 3;
            sent = fromOutside + 1 + k;
        }
        DUE.is("the 39th", x.deliver(sent), 38);
        DUE.is("the 40th", x.deliver(fromOutside), 39);
        x.crash(1);
        x.restart(1);
        DUE.is("undone", x.learn(2), 2);
        DUE.is("41st", x.deliver(fromOutside), -1);
        DUE.is("it waits", x.status(fromOutside), 0);
    }

    /** 'by input() (at most 24; ..)': those that intervals send do not count, those that are TAKEN do. */
    private static void twentyFourInputs() {
        OrphanRuntime x = new OrphanRuntime();
        for (int k = 0; k < 24; k++) {
            int m = x.input(0, k == 0 ? 3 : 3 - 31 * 3);
            DUE.is("input behind two sent each", m, 3 * k);
            DUE.is("deliver", x.deliver(m), k);
        }
        for (int p = 0; p < 3; p++) {
            DUE.is("25th for " + p, x.input(p, 3), -1);
        }
        DUE.is("no message", x.status(72), -1);
        DUE.is("the last sent", x.status(71), 0);
    }

    private static void inputsThatWaitAgainCount() {
        OrphanRuntime x = Runs.oneOrphan();
        for (int k = 0; k < 23; k++) {
            DUE.is("input", x.input(2, 8), 4 + k);
        }
        x.deliver(4);
        x.crash(1);
        x.restart(1);
        x.learn(2);
        DUE.is("it waits again", x.status(4), 0);
        DUE.is("25th", x.input(2, 8), -1);
    }

    /** 24 inputs and two of each of 40 intervals. */
    private static void oneHundredAndFourMessages() {
        OrphanRuntime x = Runs.full();
        int waiting = 0;
        for (int m = 0; m < 104; m++) {
            waiting += x.status(m) == 0 ? 1 : 0;
        }
        DUE.is("all but 40 wait", waiting, 64);
        DUE.is("no 105th", x.status(104), -1);
        DUE.is("the last can be lost", x.lose(103), true);
        DUE.is("and sent again", x.resend(0) + x.resend(1) + x.resend(2), 1);
    }

    /** 'Each process has a CHAIN .., at first empty', its state '0 when the chain is empty'. */
    private static void emptyChain() {
        OrphanRuntime x = new OrphanRuntime();
        for (int p = 0; p < 3; p++) {
            DUE.is("state", x.state(p), 0);
            DUE.is("length", x.length(p), 0);
            DUE.is("flush", x.flush(p), 0);
            DUE.is("release", x.release(p), 0);
            DUE.is("resend", x.resend(p), 0);
            DUE.is("checkpoint", x.checkpoint(p), 0);
            DUE.is("crash", x.crash(p), 0);
            DUE.is("restart", x.restart(p), 0);
            DUE.is("state then", x.state(p), 0);
            DUE.is("replayed", x.replayed(p), 0);
        }
    }

    private static void emptyAgain() {
        OrphanRuntime x = Runs.oneUnstable();
        DUE.is("before", x.state(1), 1);
        x.crash(1);
        x.restart(1);
        DUE.is("all lost", x.state(1), 0);
        x.resend(0);
        x.deliver(1);
        DUE.is("received again, from 0", x.state(1), 1);

        x = Runs.oneUnstable();
        x.input(2, 8);
        x.deliver(3);
        x.deliver(4);
        x.crash(1);
        x.restart(1);
        x.learn(2);
        DUE.is("all undone", x.state(2), 0);
        x.deliver(4);
        DUE.is("received again, from 0 too", x.state(2), 8);
    }

    /** '31 * (the state before) ..': before is the end of the chain as it is now, not as it was. */
    private static void stateBeforeTheNext() {
        OrphanRuntime x = Runs.oneUnstable();
        x.flush(1);
        int m = Runs.bring(x, 0, 4 * 8 + 1) + 1;
        x.deliver(m);
        DUE.is("31 * 1 + 16", x.state(1), 47);
        x.crash(1);
        x.restart(1);
        DUE.is("back", x.state(1), 1);
        x.deliver(x.input(1, 9));
        DUE.is("31 * 1 + 9", x.state(1), 40);
    }

    /** '.. + (the message's value), wrapping'. */
    private static void wraps() {
        int least = Integer.MIN_VALUE;
        int most = Integer.MAX_VALUE;
        int[][] cases = {
            // The state before, the value, the state then. 31 * 69273666 is 2 less than 2 to the 31st.
            {69273666, 1, most}, {69273666, 2, least}, {69273666, 3, least + 1},
            {-69273666, -2, least}, {-69273666, -3, most}, {-69273666, -4, most - 1},
            {69273667, 0, least + 29}, {-69273667, 0, most - 28},
            {most, 0, most - 30}, {most, most, -32}, {most, least, -31},
            {least, 0, least}, {least, least, 0}, {least, -1, most}, {least, most, -1},
            {-1, 31, 0}, {-1, least, most - 30}, {1, most, least + 30}, {1 << 27, 0, -(1 << 27)}};
        for (int[] one : cases) {
            OrphanRuntime x = new OrphanRuntime();
            x.deliver(x.input(1, one[0]));
            DUE.is("before", x.state(1), one[0]);
            x.deliver(x.input(1, one[1]));
            DUE.is("31 * " + one[0] + " + " + one[1], x.state(1), one[2]);
        }
    }

    /** 't >> 1 .. t >> 2' of a negative t keep the sign. */
    private static void negativeShifts() {
        int least = Integer.MIN_VALUE;
        int[][] both = {
            {-1, -1, -1}, {-5, -3, -2}, {-9, -5, -3}, {least + 3, -1073741823, -536870912}, {-1025, -513, -257}};
        int[][] firstOnly = {{-3, -2}, {-7, -4}, {least + 1, -1073741824}, {-1027, -514}};
        int[][] secondOnly = {{-2, -1}, {-6, -2}, {least + 2, -536870912}, {-1026, -257}};
        for (int p = 0; p < 3; p++) {
            for (int[] one : both) {
                OrphanRuntime x = sentBy(p, one[0], 2);
                DUE.is(one[0] + " >> 1", x.state((p + 1) % 3), one[1]);
                DUE.is(one[0] + " >> 2", x.state((p + 2) % 3), one[2]);
            }
            for (int[] one : firstOnly) {
                DUE.is(one[0] + " >> 1 alone", sentBy(p, one[0], 1).state((p + 1) % 3), one[1]);
            }
            for (int[] one : secondOnly) {
                DUE.is(one[0] + " >> 2 alone", sentBy(p, one[0], 1).state((p + 2) % 3), one[1]);
            }
            sentBy(p, -4, 0);
            sentBy(p, least, 0);
            sentBy(p, 0, 0);
        }
    }

    /** Process p receives the state from outside, and the others so many messages of it. */
    private static OrphanRuntime sentBy(int p, int state, int count) {
        OrphanRuntime x = new OrphanRuntime();
        x.deliver(x.input(p, state));
        DUE.is("state", x.state(p), state);
        for (int m = 1; m <= count; m++) {
            DUE.is("message " + m + " of " + state, x.deliver(m), m);
        }
        DUE.is("no more of " + state, x.length(0) + x.length(1) + x.length(2), 1 + count);
        DUE.is("none to itself of " + state, x.length(p), 1);
        return x;
    }

    /** 'to process (p + 1) % 3 .. (p + 2) % 3'. */
    private static void sendsRoundTheRing() {
        for (int p = 0; p < 3; p++) {
            OrphanRuntime x = sentBy(p, 9, 1);
            DUE.is("the next one has it", x.length((p + 1) % 3), 1);
            DUE.is("9 >> 1", x.state((p + 1) % 3), 4);
            x = sentBy(p, 18, 1);
            DUE.is("the one after has it", x.length((p + 2) % 3), 1);
            DUE.is("18 >> 2", x.state((p + 2) % 3), 4);
        }
    }

    /** 'first SENDS .. then one'. */
    private static void sendsTheFirstFirst() {
        for (int p = 0; p < 3; p++) {
            OrphanRuntime x = new OrphanRuntime();
            x.deliver(x.input(p, 35));
            x.deliver(1);
            DUE.is("message 1 is for the next one", x.state((p + 1) % 3), 17);
            DUE.is("not for the one after", x.length((p + 2) % 3), 0);
            x.deliver(2);
            DUE.is("message 2 is for the one after", x.state((p + 2) % 3), 8);
        }
    }

    /** 'it has t as an OUTPUT if t & 4 is not 0', t negative too. */
    private static void negativeOutputs() {
        int[] states = {-1, -2, -4, Integer.MIN_VALUE + 4, Integer.MIN_VALUE, -8, -5, 0};
        for (int k = 0; k < states.length; k++) {
            OrphanRuntime x = new OrphanRuntime();
            x.deliver(x.input(0, states[k]));
            DUE.is("outputs of " + states[k], x.release(0), k < 4 ? 1 : 0);
            DUE.is("output " + states[k], x.released(0, 0), k < 4 ? states[k] : 0);
        }
    }

    /** '(0 if it comes from outside)': made before or after the announcement. */
    private static void outsideKnowsNothing() {
        OrphanRuntime x = new OrphanRuntime();
        x.input(2, 8);
        x.crash(0);
        x.restart(0);
        x.input(2, 8);
        DUE.is("process 2 has learned nothing", x.known(2), 0);
        DUE.is("made after it", x.deliver(1), 0);
        DUE.is("made before it", x.deliver(0), 1);
    }

    /** 'so many announcements as the source's process has learned': not as there are. */
    private static void knowsWhatItsSourceHasLearned() {
        OrphanRuntime x = new OrphanRuntime();
        x.crash(0);
        x.restart(0);
        x.crash(2);
        x.restart(2);
        DUE.is("process 0 has learned 1 of 2", x.known(0), 1);
        int m = Runs.bring(x, 0, 1) + 1;
        DUE.is("process 1 has learned none", x.deliver(m), -2);
        x.learn(1);
        DUE.is("process 1 has learned 1 of 2", x.deliver(m), 1);
    }

    /** '.. when the source sends it': not as it has learned since. */
    private static void knowsWhatItsSourceHadLearned() {
        OrphanRuntime x = new OrphanRuntime();
        int m = Runs.bring(x, 0, 1) + 1;
        x.crash(0);
        x.restart(0);
        DUE.is("process 0 learned one since", x.known(0), 1);
        DUE.is("sent before", x.deliver(m), 1);
    }

    /** 'that it becomes WAITING again does not change this'. */
    private static void knowsTheSameAfterLose() {
        OrphanRuntime x = new OrphanRuntime();
        int before = Runs.bring(x, 0, 1) + 1;
        x.crash(0);
        x.restart(0);
        int after = Runs.bring(x, 0, 1) + 1;
        x.lose(before);
        x.lose(after);
        DUE.is("both are sent again", x.resend(0), 2);
        DUE.is("still knows one", x.deliver(after), -2);
        DUE.is("still knows none", x.deliver(before), 2);
    }

    private static void knowsTheSameAfterACrash() {
        OrphanRuntime x = Runs.oneUnstable();
        x.crash(1);
        x.restart(1);
        for (int k = 0; k < 2; k++) {
            x.crash(0);
            x.restart(0);
        }
        DUE.is("process 0 has learned 3", x.known(0), 3);
        DUE.is("process 1 has learned 1", x.known(1), 1);
        DUE.is("sent again", x.resend(0), 1);
        DUE.is("still knows none", x.deliver(1), 2);
    }

    private static void knowsTheSameAfterUndoing() {
        OrphanRuntime x = Runs.oneOrphan();
        x.deliver(2);
        int m = Runs.bring(x, 2, 8);
        x.crash(1);
        x.restart(1);
        x.crash(0);
        x.restart(0);
        DUE.is("undone", x.learn(2), 3);
        DUE.is("process 0 has learned more", x.known(0), 2);
        DUE.is("process 2 has learned one", x.known(2), 1);
        DUE.is("still knows none", x.deliver(2), 5);
        DUE.is("from outside still knows none", x.deliver(m), 6);
    }

    /** '(nothing for one from outside)': only the chain before makes it an orphan. */
    private static void outsideDependsOnNothing() {
        OrphanRuntime x = Runs.oneUnstable();
        Runs.bring(x, 2, 4);
        x.crash(1);
        DUE.is("no orphan", x.orphans(), 0);
        DUE.is("depends on stable ones alone", x.release(2), 1);
        x.restart(1);
        DUE.is("not undone", x.learn(2), 0);
    }

    /** 'A receipt from outside flushes the process at once, the new interval included.' */
    private static void outsideFlushes() {
        OrphanRuntime x = Runs.oneOrphan();
        x.deliver(2);
        Runs.bring(x, 2, 8);
        DUE.is("two before it and it", x.length(2), 3);
        DUE.is("all are stable", x.crash(2), 0);
        DUE.is("all stay", x.restart(2), 3);
        DUE.is("another process is not flushed", x.crash(1), 1);
    }

    private static void outsideFlushesAgain() {
        OrphanRuntime x = Runs.oneOrphan();
        int m = Runs.bring(x, 2, 8);
        x.crash(1);
        x.restart(1);
        DUE.is("undone", x.learn(2), 2);
        x.deliver(2);
        x.deliver(m);
        DUE.is("both are stable", x.crash(2), 0);
    }

    /** '(there may be none)': such an announcement is numbered and learned as any other. */
    private static void announcementAboutNone() {
        OrphanRuntime x = Runs.oneOrphan();
        DUE.is("nothing lost", x.crash(0), 0);
        x.restart(0);
        DUE.is("process 0 knows it", x.known(0), 1);
        int m = Runs.bring(x, 0, 3) + 1;
        DUE.is("a message knows it", x.deliver(m), -2);
        DUE.is("process 1 learns it", x.learn(1), 0);
        DUE.is("known", x.known(1), 1);
        DUE.is("no more held", x.deliver(m), 4);
        DUE.is("nothing undone", x.length(1), 2);
        DUE.is("no more", x.learn(1), -1);
        x.crash(1);
        x.restart(1);
        DUE.is("about none", x.learn(2), 0);
        DUE.is("about process 1's", x.learn(2), 1);
        DUE.is("known by process 2", x.known(2), 2);
    }

    /** 'the intervals lost in the latest crash of that process': not in one before, not of another. */
    private static void announcementAboutTheLatestCrash() {
        OrphanRuntime x = Runs.oneOrphan();
        x.crash(1);
        x.crash(0);
        x.restart(0);
        DUE.is("process 0's is not about process 1's", x.learn(2), 0);
        x.restart(1);
        DUE.is("process 1's is", x.learn(2), 1);

        x = Runs.oneUnstable();
        x.crash(1);
        x.restart(1);
        x.learn(2);
        x.resend(0);
        x.deliver(1);
        DUE.is("of the second", x.deliver(4), 3);
        x.flush(1);
        x.crash(1);
        x.restart(1);
        DUE.is("the second crash lost nothing", x.learn(2), 0);
    }

    /** 'the first interval of its chain that depends on an interval lost there': not on one lost elsewhere. */
    private static void firstThatDependsOnOneLostThere() {
        OrphanRuntime x = Runs.twoToLose();
        x.crash(0);
        x.restart(0);
        x.crash(1);
        DUE.is("both are orphans", x.orphans(), 2);
        DUE.is("only the second, process 1 is still down", x.learn(2), 1);
        DUE.is("the first stays", x.length(2), 1);
        DUE.is("as an orphan", x.orphans(), 1);

        x = Runs.twoToLose();
        x.crash(0);
        x.restart(0);
        x.crash(1);
        x.restart(1);
        DUE.is("only the second, the other is announced", x.learn(2), 1);
        DUE.is("the first stays TAKEN", x.status(6), 1);
        DUE.is("the first, by the next announcement", x.learn(2), 1);
        DUE.is("none is left", x.length(2), 0);
    }

    /** '(if none depends, nothing is undone)'. */
    private static void noneDepends() {
        OrphanRuntime x = Runs.oneUnstable();
        Runs.bring(x, 2, 8);
        x.checkpoint(2);
        x.deliver(2);
        x.crash(1);
        x.restart(1);
        DUE.is("learn", x.learn(2), 0);
        DUE.is("known", x.known(2), 1);
        DUE.is("length", x.length(2), 2);
        DUE.is("state", x.state(2), 31 * 8);
        DUE.is("TAKEN", x.status(2), 1);
        DUE.is("replayed", x.replayed(2), 0);
        DUE.is("the last one is not stable", x.crash(2), 1);
        DUE.is("restart", x.restart(2), 1);
        DUE.is("the checkpoint is still kept", x.replayed(2), 0);
    }

    private static void noneOnTheChain() {
        OrphanRuntime x = Runs.oneUnstable();
        x.crash(1);
        x.restart(1);
        DUE.is("process 2 has no chain", x.learn(2), 0);
        DUE.is("known", x.known(2), 1);
    }

    /** 'A process LEARNS announcements in their order, one after the other.' */
    private static void learnsInOrder() {
        OrphanRuntime x = Runs.oneUnstable();
        x.crash(2);
        x.restart(2);
        DUE.is("process 2 receives", x.deliver(3), 2);
        x.crash(1);
        x.restart(1);
        x.crash(0);
        x.restart(0);
        DUE.is("process 1 has learned both before", x.known(1), 2);
        DUE.is("process 2 learns its second", x.learn(2), 1);
        DUE.is("then the third", x.learn(2), 0);
        DUE.is("all", x.known(2), 3);
        DUE.is("process 1 learns the third", x.learn(1), 0);
        DUE.is("process 1 knows all", x.learn(1), -1);
    }

    /** '.. that the process has learned by now, this one included'. */
    private static void discardedByThisOne() {
        OrphanRuntime x = Runs.oneOrphan();
        x.crash(1);
        x.restart(1);
        DUE.is("its only one", x.learn(2) * 10 + x.known(2), 11);
        DUE.is("DISCARDED", x.status(3), 3);
    }

    /** 'otherwise it is WAITING again': announced, and learned by others, but not by this process. */
    private static void waitingIfTheOtherIsNotLearned() {
        OrphanRuntime x = Runs.twoLost();
        DUE.is("process 0 has learned both", x.known(0), 2);
        DUE.is("process 2 learns the first", x.learn(2), 2);
        DUE.is("the first one's is DISCARDED", x.status(6), 3);
        DUE.is("the second one's is WAITING", x.status(5), 0);
        x.learn(2);
        DUE.is("nothing is undone by the second: it still waits", x.status(5), 0);
        DUE.is("till it is delivered", x.deliver(5), -3);
    }

    private static void waitingIfTheOtherIsNotAnnounced() {
        OrphanRuntime x = Runs.twoToLose();
        x.crash(1);
        x.restart(1);
        x.crash(0);
        DUE.is("process 0 is down, its lost ones not announced", x.learn(2), 2);
        DUE.is("process 1's is DISCARDED", x.status(6), 3);
        DUE.is("process 0's is WAITING", x.status(5), 0);
        DUE.is("and received again", x.deliver(5), 6);
        DUE.is("as an orphan", x.orphans(), 1);
    }

    private static void waitingIfFromOutside() {
        OrphanRuntime x = Runs.oneOrphan();
        int m = Runs.bring(x, 2, 8);
        x.crash(1);
        x.restart(1);
        x.learn(2);
        DUE.is("WAITING", x.status(m), 0);
        DUE.is("received again", x.deliver(m), 4);
    }

    /** 'A process that learns does not flush.' */
    private static void learningDoesNotFlush() {
        OrphanRuntime x = Runs.oneUnstable();
        x.deliver(2);
        x.deliver(3);
        x.crash(1);
        x.restart(1);
        DUE.is("undone", x.learn(2), 1);
        DUE.is("what stays is not stable", x.flush(2), 1);
        x = Runs.oneUnstable();
        x.deliver(2);
        x.crash(1);
        x.restart(1);
        DUE.is("nothing undone", x.learn(2), 0);
        DUE.is("the chain is not stable", x.flush(2), 1);
    }
}
