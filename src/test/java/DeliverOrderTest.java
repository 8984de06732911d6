import java.util.function.Supplier;

/**
 * Promise 4: 'The first of these that holds': REFUSED before HELD and before ORPHAN, and the edge of
 * each. That HELD comes before ORPHAN cannot be seen: a message that knows an announcement was sent
 * by a process that had learned it, and so its source depends on nothing that it is about.
 */
final class DeliverOrderTest {
    private static final Due DUE = new Due("DeliverOrderTest");

    public static void main(String[] args) {
        held();
        heldByOneMoreOnly();
        refusedBeforeHeldWhenMissing();
        refusedBeforeHeldWhenDown();
        refusedBeforeHeldWhenFull();
        orphan();
        orphanOfEachKind();
        noOrphanWithoutNeed();
        orphanForTheOneThatLost();
        refusedBeforeOrphanWhenMissing();
        refusedBeforeOrphanWhenDiscarded();
        refusedBeforeOrphanWhenDown();
        refusedBeforeOrphanWhenFull();
        DUE.end();
    }

    /** Process 1 has learned announcement 0 and sent message 4 then; process 2 has learned nothing. */
    private static OrphanRuntime heldMessage() {
        OrphanRuntime x = Runs.oneUnstable();
        x.crash(1);
        x.restart(1);
        x.resend(0);
        x.deliver(1);
        return x;
    }

    /** Process 2 has learned that the source of message 3 is lost. */
    private static OrphanRuntime orphanMessage() {
        OrphanRuntime x = Runs.oneUnstable();
        x.crash(1);
        x.restart(1);
        x.learn(2);
        return x;
    }

    /** Uses up all intervals but so many, by the 23 inputs that are left and what process 0 sends to process 1 then. */
    private static void fill(OrphanRuntime x, int left) {
        int first = x.input(0, 3 - 31 * 3);
        for (int k = 1; k < 23; k++) {
            x.input(0, 3 - 31 * 3);
        }
        int made = -1;
        for (int k = 0; k < 46 && made < 39 - left; k++) {
            // Process 0 sends two each time, the first of them to process 1.
            made = x.deliver(k < 23 ? first + k : first + 23 + 2 * (k - 23));
        }
        DUE.is("all but " + left, made, 39 - left);
    }

    /** 'HELD, changing nothing, when the message knows more announcements than the process has learned'. */
    private static void held() {
        DUE.is("held", heldMessage().deliver(4), -2);
        Twins.unchanged(DUE, "held", DeliverOrderTest::heldMessage, x -> x.deliver(4));
        DUE.is("held in a busy run", Runs.busy().deliver(15), -2);
        Twins.unchanged(DUE, "held in a busy run", Runs::busy, x -> x.deliver(15));
    }

    /** Process 0 sends message k + 1 of each input k knowing 0, 1, 2 and 3 announcements. */
    private static void heldByOneMoreOnly() {
        for (int learned = 0; learned <= 3; learned++) {
            OrphanRuntime x = new OrphanRuntime();
            int[] sent = new int[4];
            for (int knows = 0; knows <= 3; knows++) {
                sent[knows] = Runs.bring(x, 0, 1) + 1;
                x.crash(0);
                x.restart(0);
            }
            for (int k = 0; k < learned; k++) {
                DUE.is("learn " + k, x.learn(1), 0);
            }
            for (int knows = 3; knows > learned; knows--) {
                DUE.is(knows + " known, " + learned + " learned", x.deliver(sent[knows]), -2);
                DUE.is("it waits", x.status(sent[knows]), 0);
            }
            for (int knows = learned; knows >= 0; knows--) {
                DUE.is(knows + " known, " + learned + " learned", x.deliver(sent[knows]), 4 + learned - knows);
                DUE.is("it is taken", x.status(sent[knows]), 1);
            }
        }
    }

    private static void refusedBeforeHeldWhenMissing() {
        OrphanRuntime x = heldMessage();
        x.lose(4);
        DUE.is("missing and held", x.deliver(4), -1);
        DUE.is("it stays MISSING", x.status(4), 2);
        x.resend(1);
        DUE.is("held again", x.deliver(4), -2);
    }

    private static void refusedBeforeHeldWhenDown() {
        OrphanRuntime x = heldMessage();
        x.crash(2);
        DUE.is("down and held", x.deliver(4), -1);
        DUE.is("it waits", x.status(4), 0);
    }

    private static void refusedBeforeHeldWhenFull() {
        OrphanRuntime x = heldMessage();
        fill(x, 1);
        DUE.is("held with one interval left", x.deliver(4), -2);
        DUE.is("the last", x.deliver(2), 39);
        DUE.is("full and held", x.deliver(4), -1);
        DUE.is("it waits", x.status(4), 0);
    }

    /** 'then the message becomes DISCARDED and nothing else changes'. */
    private static void orphan() {
        OrphanRuntime x = orphanMessage();
        DUE.is("orphan", x.deliver(3), -3);
        DUE.is("DISCARDED", x.status(3), 3);
        Twins.unchangedBut(DUE, "orphan", 3, DeliverOrderTest::orphanMessage, y -> y.deliver(3));
        Supplier<OrphanRuntime> notStable = () -> {
            OrphanRuntime y = orphanMessage();
            y.deliver(2);
            return y;
        };
        DUE.is("the chain is not stable", notStable.get().flush(2), 1);
        DUE.is("orphan behind it", notStable.get().deliver(3), -3);
        Twins.unchangedBut(DUE, "orphan behind it", 3, notStable, y -> y.deliver(3));
        Supplier<OrphanRuntime> busy = () -> {
            OrphanRuntime y = Runs.busy();
            y.restart(1);
            return y;
        };
        x = busy.get();
        DUE.is("orphan in a busy run", x.deliver(10), -3);
        DUE.is("DISCARDED in a busy run", x.status(10), 3);
        Twins.unchangedBut(DUE, "orphan in a busy run", 10, busy, y -> y.deliver(10));
    }

    /** The source is lost itself, stands behind one on the chain, or received from one that was lost. */
    private static void orphanOfEachKind() {
        OrphanRuntime x = Runs.oneUnstable();
        x.deliver(3);
        int behind = Runs.bring(x, 2, 3) + 1;
        DUE.is("received from the one behind", x.deliver(behind), 4);
        int third = Runs.bring(x, 0, 1) + 1;
        x.crash(1);
        x.restart(1);
        DUE.is("its source depends on one that depends on a lost one", x.deliver(third), -3);
        DUE.is("its source stands behind an orphan", x.deliver(behind + 1), -3);
        x = orphanMessage();
        DUE.is("its source is lost", x.deliver(3), -3);
    }

    /** Message 2 comes from process 0, which depends on nothing that was lost. */
    private static void noOrphanWithoutNeed() {
        OrphanRuntime x = orphanMessage();
        DUE.is("a sound source", x.deliver(2), 2);
        DUE.is("from outside", x.deliver(x.input(2, 8)), 3);
    }

    private static void orphanForTheOneThatLost() {
        OrphanRuntime x = Runs.oneOrphan();
        int m = Runs.bring(x, 2, 2) + 1;
        x.crash(1);
        x.restart(1);
        DUE.is("by its own announcement", x.deliver(m), -3);
    }

    private static void refusedBeforeOrphanWhenMissing() {
        OrphanRuntime x = orphanMessage();
        x.lose(3);
        DUE.is("missing and an orphan", x.deliver(3), -1);
        DUE.is("it stays MISSING", x.status(3), 2);
    }

    private static void refusedBeforeOrphanWhenDiscarded() {
        OrphanRuntime x = orphanMessage();
        x.deliver(3);
        DUE.is("discarded and an orphan", x.deliver(3), -1);
        DUE.is("it stays DISCARDED", x.status(3), 3);
    }

    private static void refusedBeforeOrphanWhenDown() {
        OrphanRuntime x = orphanMessage();
        x.crash(2);
        DUE.is("down and an orphan", x.deliver(3), -1);
        DUE.is("it waits", x.status(3), 0);
        x.restart(2);
        DUE.is("up and an orphan", x.deliver(3), -3);
    }

    private static void refusedBeforeOrphanWhenFull() {
        OrphanRuntime x = orphanMessage();
        fill(x, 0);
        DUE.is("full and an orphan", x.deliver(3), -1);
        DUE.is("it waits", x.status(3), 0);
        x = orphanMessage();
        fill(x, 1);
        DUE.is("an orphan with one interval left", x.deliver(3), -3);
        DUE.is("it took none", x.deliver(2), 39);
    }
}
