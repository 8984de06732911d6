import java.util.function.Supplier;

/** Promises 1 and 2: a new object, and one that is renewed. */
final class BeginTest {
    private static final Due DUE = new Due("BeginTest");

    public static void main(String[] args) {
        isNew("new", new OrphanRuntime());
        begins("new", new OrphanRuntime());
        renewed();
        renewedTwice();
        renewedIsLikeNew();
        objectsDoNotShare();
        DUE.end();
    }

    private static void isNew(String when, OrphanRuntime x) {
        for (int p = 0; p < 3; p++) {
            String of = when + ", process " + p + ": ";
            DUE.is(of + "state", x.state(p), 0);
            DUE.is(of + "length", x.length(p), 0);
            DUE.is(of + "known", x.known(p), 0);
            DUE.is(of + "outputs", x.outputs(p), 0);
            DUE.is(of + "released 0", x.released(p, 0), 0);
            DUE.is(of + "replayed", x.replayed(p), 0);
            DUE.is(of + "learn", x.learn(p), -1);
            DUE.is(of + "restart", x.restart(p), -1);
            DUE.is(of + "flush", x.flush(p), 0);
            DUE.is(of + "resend", x.resend(p), 0);
            DUE.is(of + "release", x.release(p), 0);
        }
        DUE.is(when + ": orphans", x.orphans(), 0);
        for (int m = -1; m < 105; m++) {
            DUE.is(when + ": status " + m, x.status(m), -1);
            DUE.is(when + ": deliver " + m, x.deliver(m), -1);
            DUE.is(when + ": lose " + m, x.lose(m), false);
        }
    }

    /** All numbers are given out from 0 again, up to their bounds, and no old checkpoint is kept. */
    private static void begins(String when, OrphanRuntime x) {
        for (int k = 0; k < 24; k++) {
            DUE.is(when + ": input " + k, x.input(0, 7 - (k == 0 ? 0 : 31 * 7)), k);
        }
        DUE.is(when + ": input 24", x.input(0, 3), -1);
        for (int k = 0; k < 24; k++) {
            DUE.is(when + ": deliver " + k, x.deliver(k), k);
        }
        for (int k = 0; k < 16; k++) {
            DUE.is(when + ": deliver " + (24 + 2 * k), x.deliver(24 + 2 * k), 24 + k);
        }
        DUE.is(when + ": deliver beyond", x.deliver(24 + 2 * 16), -1);
        DUE.is(when + ": orphans among many", x.orphans(), 0);
        DUE.is(when + ": release", x.release(0), 24);
        DUE.is(when + ": released", x.released(0, 23), 7);
        DUE.is(when + ": flush", x.flush(1), 16);
        DUE.is(when + ": crash", x.crash(0), 0);
        DUE.is(when + ": restart", x.restart(0), 24);
        DUE.is(when + ": known", x.known(0), 1);
        DUE.is(when + ": replayed", x.replayed(0), 24);
    }

    private static OrphanRuntime used() {
        OrphanRuntime x = Runs.twoLost();
        x.learn(2);
        Runs.bring(x, 0, 7);
        Runs.bring(x, 0, 7);
        x.release(0);
        x.checkpoint(0);
        x.crash(0);
        x.restart(0);
        x.lose(Runs.bring(x, 1, 3) + 1);
        x.crash(1);
        return x;
    }

    private static void renewed() {
        OrphanRuntime x = used();
        x.renew();
        isNew("renewed", x);
        x = used();
        x.renew();
        begins("renewed", x);
        x.renew();
        begins("renewed when full", x);
        x = Runs.full();
        x.renew();
        isNew("renewed when full", x);
    }

    private static void renewedTwice() {
        OrphanRuntime x = new OrphanRuntime();
        x.renew();
        x.renew();
        isNew("renewed twice", x);
        DUE.is("input after renewing twice", x.input(1, 5), 0);
    }

    /** 'as in the constructor': after the limits, while one is down, while all are, with orphans. */
    private static void renewedIsLikeNew() {
        renewedIsLikeNew("new", OrphanRuntime::new);
        renewedIsLikeNew("used", BeginTest::used);
        renewedIsLikeNew("busy", Runs::busy);
        renewedIsLikeNew("full", Runs::full);
        renewedIsLikeNew("two lost", Runs::twoLost);
        renewedIsLikeNew("all inputs wait", () -> {
            OrphanRuntime x = new OrphanRuntime();
            for (int k = 0; k < 25; k++) {
                x.input(k % 3, k);
            }
            return x;
        });
        for (int p = 0; p < 3; p++) {
            int q = p;
            renewedIsLikeNew("full and down " + p, () -> down(Runs.full(), q, q));
        }
        renewedIsLikeNew("full and all down", () -> down(Runs.full(), 0, 2));
        renewedIsLikeNew("busy and all down", () -> down(Runs.busy(), 0, 2));
        renewedIsLikeNew("full, lost and learned", () -> {
            OrphanRuntime x = down(Runs.full(), 0, 2);
            for (int p = 0; p < 3; p++) {
                x.restart(p);
                x.release(p);
                x.checkpoint(p);
            }
            return x;
        });
    }

    private static OrphanRuntime down(OrphanRuntime x, int from, int to) {
        for (int p = from; p <= to; p++) {
            x.crash(p);
        }
        return x;
    }

    private static void renewedIsLikeNew(String when, Supplier<OrphanRuntime> run) {
        Twins.alike(DUE, "renewed when " + when, () -> {
            OrphanRuntime x = run.get();
            x.renew();
            return x;
        }, OrphanRuntime::new);
    }

    private static void objectsDoNotShare() {
        OrphanRuntime x = used();
        OrphanRuntime y = new OrphanRuntime();
        isNew("beside another", y);
        y.input(0, 1);
        DUE.is("the other one", x.known(0), 3);
    }
}
