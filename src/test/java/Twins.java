import java.util.ArrayList;
import java.util.List;
import java.util.function.Consumer;
import java.util.function.Supplier;

/**
 * Whether two objects answer alike, whatever is asked of them from now on. Each way of going on has
 * objects of its own, so that no way hides what another would bring to light, and none comes near the
 * 512 calls of one object.
 */
final class Twins {
    private static final int WAYS = 8;
    private static final int MESSAGES = 105;
    private static final int NONE = -1;

    private final OrphanRuntime x;
    /** A message that may differ between the two and so is not asked about, or NONE. */
    private final int apart;
    private final List<String> calls = new ArrayList<>();
    private final List<Integer> answers = new ArrayList<>();

    private Twins(OrphanRuntime x, int apart) {
        this.x = x;
        this.apart = apart;
    }

    static void alike(Due due, String what, Supplier<OrphanRuntime> one, Supplier<OrphanRuntime> other) {
        alikeBut(due, what, NONE, one, other);
    }

    /** The call changes nothing of what the run has made. */
    static void unchanged(Due due, String what, Supplier<OrphanRuntime> run, Consumer<OrphanRuntime> call) {
        unchangedBut(due, what, NONE, run, call);
    }

    /** The call changes nothing but what concerns message m alone. */
    static void unchangedBut(
            Due due, String what, int m, Supplier<OrphanRuntime> run, Consumer<OrphanRuntime> call) {
        alikeBut(due, what, m, () -> {
            OrphanRuntime x = run.get();
            call.accept(x);
            return x;
        }, run);
    }

    private static void alikeBut(
            Due due, String what, int m, Supplier<OrphanRuntime> one, Supplier<OrphanRuntime> other) {
        for (int way = 0; way < WAYS; way++) {
            Twins got = new Twins(one.get(), m);
            Twins want = new Twins(other.get(), m);
            got.goOn(way);
            want.goOn(way);
            for (int k = 0; k < want.calls.size(); k++) {
                due.is(what + ", way " + way + ", " + want.calls.get(k), got.answers.get(k), want.answers.get(k));
            }
        }
    }

    private void goOn(int way) {
        switch (way) {
            case 0 -> { }
            case 1 -> storage();
            case 2 -> announcements();
            case 3 -> outputs();
            case 4 -> receipts();
            case 5 -> bounds();
            case 6 -> checkpoints();
            default -> missing();
        }
        look();
    }

    private void note(String call, int answer) {
        calls.add(call);
        answers.add(answer);
    }

    private void storage() {
        for (int p = 0; p < 3; p++) {
            note("crash " + p, x.crash(p));
        }
        for (int p = 0; p < 3; p++) {
            note("restart " + p, x.restart(p));
        }
    }

    private void announcements() {
        for (int p = 0; p < 3; p++) {
            note("restart " + p, x.restart(p));
        }
        for (int k = 0; k < 12; k++) {
            note("learn " + k % 3, x.learn(k % 3));
            note("orphans", x.orphans());
        }
    }

    private void outputs() {
        for (int p = 0; p < 3; p++) {
            note("release " + p, x.release(p));
        }
        for (int p = 0; p < 3; p++) {
            note("restart " + p, x.restart(p));
            note("flush " + p, x.flush(p));
        }
        for (int p = 0; p < 3; p++) {
            note("release " + p, x.release(p));
        }
    }

    private void receipts() {
        for (int p = 0; p < 3; p++) {
            note("resend " + p, x.resend(p));
        }
        deliverAll();
    }

    private void deliverAll() {
        for (int m = 0; m < MESSAGES; m++) {
            if (m != apart) {
                note("deliver " + m, x.deliver(m));
            }
        }
    }

    /** Uses up what is left of the inputs and of the intervals. */
    private void bounds() {
        for (int k = 0; k < 25; k++) {
            note("input " + k, x.input(k % 3, 7 * k + 3));
        }
        deliverAll();
        for (int p = 0; p < 3; p++) {
            note("release " + p, x.release(p));
        }
        storage();
    }

    private void checkpoints() {
        for (int p = 0; p < 3; p++) {
            note("learn " + p, x.learn(p));
            note("replayed " + p, x.replayed(p));
            note("checkpoint " + p, x.checkpoint(p));
        }
        storage();
    }

    private void missing() {
        for (int m = 0; m < MESSAGES; m++) {
            if (m != apart) {
                note("lose " + m, x.lose(m) ? 1 : 0);
            }
        }
        for (int p = 0; p < 3; p++) {
            note("resend " + p, x.resend(p));
        }
    }

    private void look() {
        for (int p = 0; p < 3; p++) {
            note("state " + p, x.state(p));
            note("length " + p, x.length(p));
            note("known " + p, x.known(p));
            note("outputs " + p, x.outputs(p));
            note("replayed " + p, x.replayed(p));
            for (int k = 0; k < 9; k++) {
                note("released " + p + ", " + k, x.released(p, k));
            }
        }
        note("orphans", x.orphans());
        for (int m = 0; m < MESSAGES; m++) {
            if (m != apart) {
                note("status " + m, x.status(m));
            }
        }
    }
}
