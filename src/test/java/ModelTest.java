/** Promises 1 to 20: long mixed runs, every answer and all that can be asked compared with the model. */
final class ModelTest {
    private static final Due DUE = new Due("ModelTest");
    private static final int RUNS = 12000;
    private static final int CALLS = 340;
    /** Seen answers: without these a run would prove little. */
    private static int held;
    private static int orphan;
    private static int undone;
    private static int waitsAgain;
    private static int fullOfIntervals;

    private long seed;
    private final OrphanRuntime x = new OrphanRuntime();
    private final Model model = new Model();

    private ModelTest(long seed) {
        this.seed = seed * 0x9E3779B97F4A7C15L + 1;
    }

    public static void main(String[] args) {
        for (int run = 0; run < RUNS; run++) {
            new ModelTest(run).play(run);
        }
        DUE.is("HELD was seen often", held > 1000, true);
        DUE.is("ORPHAN was seen often", orphan > 1000, true);
        DUE.is("undoing was seen often", undone > 1000, true);
        DUE.is("WAITING again was seen often", waitsAgain > 1000, true);
        DUE.is("all 40 intervals were seen often", fullOfIntervals > 100, true);
        announcementsWithoutEnd();
        DUE.end();
    }

    private int below(int bound) {
        seed = seed * 6364136223846793005L + 1442695040888963407L;
        return (int) ((seed >>> 33) % bound);
    }

    private int process() {
        return below(40) == 0 ? Runs.NO_PROCESSES[below(5)] : below(3);
    }

    /** Young messages more often than old ones, for most of the old ones are taken. */
    private int message() {
        int made = 0;
        while (model.status(made) != -1) {
            made++;
        }
        if (made == 0 || below(30) == 0) {
            return below(3) == 0 ? Runs.NO_MESSAGES[below(5)] : made;
        }
        for (int tries = 0; tries < 3; tries++) {
            int m = below(made);
            if (model.status(m) == OrphanRuntime.WAITING) {
                return m;
            }
        }
        return below(made);
    }

    private int value() {
        int kind = below(4);
        if (kind == 0) {
            return (int) (seed >>> 20);
        }
        return below(64) - 16;
    }

    /** So many calls that those of the look at the end stay within what one object promises. */
    private void play(int run) {
        // Some runs crash seldom, so that chains grow; some crash often, so that announcements do.
        int crashes = 1 + run % 5 * 3;
        int calls = run % 2 == 0 ? CALLS : 1 + below(CALLS);
        for (int call = 0; call < calls; call++) {
            one("run " + run + ", call " + call + ": ", below(80 + crashes), run);
        }
        compare("run " + run + ", after " + calls + " calls: ");
        if (model.deliver(model.input(0, 0)) == -1 && model.length(0) != -1) {
            fullOfIntervals++;
        }
    }

    private void one(String at, int kind, int run) {
        int p = process();
        if (kind < 6) {
            int value = value();
            DUE.is(at + "input", x.input(p, value), model.input(p, value));
        } else if (kind < 32) {
            delivered(at, message());
        } else if (kind < 35) {
            int m = message();
            DUE.is(at + "lose", x.lose(m), model.lose(m));
        } else if (kind < 42) {
            DUE.is(at + "resend", x.resend(p), model.resend(p));
        } else if (kind < 45) {
            DUE.is(at + "flush", x.flush(p), model.flush(p));
        } else if (kind < 49) {
            DUE.is(at + "checkpoint", x.checkpoint(p), model.checkpoint(p));
        } else if (kind < 57) {
            DUE.is(at + "restart", x.restart(p), model.restart(p));
        } else if (kind < 64) {
            learned(at, p);
        } else if (kind < 69) {
            DUE.is(at + "release", x.release(p), model.release(p));
        } else if (kind < 70) {
            if (run % 4 == 0 && below(8) == 0) {
                x.renew();
                model.renew();
            }
        } else if (kind < 80) {
            asked(at, p, kind);
        } else {
            DUE.is(at + "crash", x.crash(p), model.crash(p));
        }
    }

    private void asked(String at, int p, int kind) {
        int k = below(9) - 1;
        int m = message();
        switch (kind) {
            case 70 -> DUE.is(at + "released", x.released(p, k), model.released(p, k));
            case 71 -> DUE.is(at + "outputs", x.outputs(p), model.outputs(p));
            case 72 -> DUE.is(at + "state", x.state(p), model.state(p));
            case 73 -> DUE.is(at + "length", x.length(p), model.length(p));
            case 74 -> DUE.is(at + "known", x.known(p), model.known(p));
            case 75 -> DUE.is(at + "status", x.status(m), model.status(m));
            case 76 -> DUE.is(at + "replayed", x.replayed(p), model.replayed(p));
            default -> DUE.is(at + "orphans", x.orphans(), model.orphans());
        }
    }

    private void delivered(String at, int m) {
        int want = model.deliver(m);
        held += want == -2 ? 1 : 0;
        orphan += want == -3 ? 1 : 0;
        DUE.is(at + "deliver", x.deliver(m), want);
    }

    private void learned(String at, int p) {
        int before = waiting();
        int want = model.learn(p);
        undone += want > 0 ? 1 : 0;
        waitsAgain += waiting() - before;
        DUE.is(at + "learn", x.learn(p), want);
    }

    private int waiting() {
        int count = 0;
        for (int m = 0; model.status(m) != -1; m++) {
            count += model.status(m) == OrphanRuntime.WAITING ? 1 : 0;
        }
        return count;
    }

    private void compare(String at) {
        for (int p = 0; p < 3; p++) {
            DUE.is(at + "state " + p, x.state(p), model.state(p));
            DUE.is(at + "length " + p, x.length(p), model.length(p));
            DUE.is(at + "known " + p, x.known(p), model.known(p));
            DUE.is(at + "outputs " + p, x.outputs(p), model.outputs(p));
            DUE.is(at + "replayed " + p, x.replayed(p), model.replayed(p));
            for (int k = -1; k <= model.outputs(p); k++) {
                DUE.is(at + "released " + p + ", " + k, x.released(p, k), model.released(p, k));
            }
        }
        for (int m = 0; m <= 104; m++) {
            DUE.is(at + "status " + m, x.status(m), model.status(m));
        }
        DUE.is(at + "orphans", x.orphans(), model.orphans());
    }

    /** 512 calls can make 256 announcements; later calls may answer anything but must not throw. */
    private static void announcementsWithoutEnd() {
        OrphanRuntime y = Runs.oneOrphan();
        y.flush(2);
        for (int k = 0; k < 250; k++) {
            DUE.is("crash " + k, y.crash(1), k == 0 ? 1 : 0);
            DUE.is("restart " + k, y.restart(1), 0);
        }
        DUE.is("known", y.known(1), 250);
        DUE.is("the first", y.learn(2), 1);
        y.crash(2);
        DUE.is("the rest", y.restart(2), 0);
        DUE.is("known by process 2", y.known(2), 251);
        for (int k = 0; k < 2000; k++) {
            y.crash(k % 3);
            y.restart(k % 3);
        }
    }
}
