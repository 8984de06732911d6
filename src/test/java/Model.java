import java.util.ArrayList;
import java.util.HashSet;
import java.util.List;
import java.util.Set;

/** The document's words, as plainly as sets and lists can say them; slow, and apart from the class. */
final class Model {
    private static final class Interval {
        int state;
        Message message;
        boolean stable;
        boolean lost;
        boolean released;
        final Set<Interval> depends = new HashSet<>();
    }

    private static final class Message {
        int value;
        int target;
        Interval source;
        int knows;
        int status = OrphanRuntime.WAITING;

        boolean stands(Set<Interval> on) {
            return source != null && source.depends.stream().anyMatch(on::contains);
        }
    }

    private static final class Proc {
        boolean up = true;
        List<Interval> chain = new ArrayList<>();
        Set<Interval> lostInLatestCrash = new HashSet<>();
        final List<Set<Interval>> learned = new ArrayList<>();
        final List<Integer> checkpoints = new ArrayList<>();
        final List<Integer> outputs = new ArrayList<>();
        int replayed;

        Set<Interval> knownLost() {
            Set<Interval> all = new HashSet<>();
            learned.forEach(all::addAll);
            return all;
        }

        int state() {
            return chain.isEmpty() ? 0 : chain.get(chain.size() - 1).state;
        }
    }

    private Proc[] procs;
    private List<Interval> intervals;
    private List<Message> messages;
    private List<Set<Interval>> announcements;

    Model() {
        renew();
    }

    void renew() {
        procs = new Proc[] {new Proc(), new Proc(), new Proc()};
        intervals = new ArrayList<>();
        messages = new ArrayList<>();
        announcements = new ArrayList<>();
    }

    private boolean named(int p) {
        return p == 0 || p == 1 || p == 2;
    }

    private boolean refuses(int p) {
        return !named(p) || !procs[p].up;
    }

    private int send(int value, int target, Interval source, int knows) {
        Message message = new Message();
        message.value = value;
        message.target = target;
        message.source = source;
        message.knows = knows;
        messages.add(message);
        return messages.size() - 1;
    }

    int input(int p, int value) {
        long made = messages.stream().filter(m -> m.source == null).count();
        if (!named(p) || made == 24) {
            return -1;
        }
        return send(value, p, null, 0);
    }

    private Message waiting(int m) {
        if (m < 0 || m >= messages.size() || messages.get(m).status != OrphanRuntime.WAITING) {
            return null;
        }
        return messages.get(m);
    }

    int deliver(int m) {
        Message message = waiting(m);
        if (message == null || !procs[message.target].up || intervals.size() == 40) {
            return -1;
        }
        Proc proc = procs[message.target];
        if (message.knows > proc.learned.size()) {
            return -2;
        }
        if (message.stands(proc.knownLost())) {
            message.status = OrphanRuntime.DISCARDED;
            return -3;
        }
        Interval made = new Interval();
        made.message = message;
        made.state = 31 * proc.state() + message.value;
        made.depends.add(made);
        if (!proc.chain.isEmpty()) {
            made.depends.addAll(proc.chain.get(proc.chain.size() - 1).depends);
        }
        if (message.source != null) {
            made.depends.addAll(message.source.depends);
        }
        intervals.add(made);
        proc.chain.add(made);
        message.status = OrphanRuntime.TAKEN;
        if (made.state % 2 != 0) {
            send(made.state >> 1, (message.target + 1) % 3, made, proc.learned.size());
        }
        if ((made.state >> 1) % 2 != 0) {
            send(made.state >> 2, (message.target + 2) % 3, made, proc.learned.size());
        }
        if (message.source == null) {
            proc.chain.forEach(i -> i.stable = true);
        }
        return intervals.size() - 1;
    }

    boolean lose(int m) {
        Message message = waiting(m);
        if (message == null || message.source == null) {
            return false;
        }
        message.status = OrphanRuntime.MISSING;
        return true;
    }

    int resend(int p) {
        if (refuses(p)) {
            return -1;
        }
        int sent = 0;
        for (Message message : messages) {
            if (message.status == OrphanRuntime.MISSING && procs[p].chain.contains(message.source)) {
                message.status = OrphanRuntime.WAITING;
                sent++;
            }
        }
        return sent;
    }

    int flush(int p) {
        if (refuses(p)) {
            return -1;
        }
        int became = 0;
        for (Interval interval : procs[p].chain) {
            became += interval.stable ? 0 : 1;
            interval.stable = true;
        }
        return became;
    }

    int checkpoint(int p) {
        if (refuses(p)) {
            return -1;
        }
        flush(p);
        List<Integer> kept = procs[p].checkpoints;
        int length = procs[p].chain.size();
        if (kept.isEmpty() || kept.get(kept.size() - 1) != length) {
            kept.add(length);
        }
        if (kept.size() > 2) {
            kept.remove(0);
        }
        return length;
    }

    int crash(int p) {
        if (refuses(p)) {
            return -1;
        }
        Proc proc = procs[p];
        proc.up = false;
        proc.lostInLatestCrash = new HashSet<>();
        List<Interval> stays = new ArrayList<>();
        for (Interval interval : proc.chain) {
            if (interval.stable) {
                stays.add(interval);
            } else {
                interval.lost = true;
                interval.message.status = OrphanRuntime.MISSING;
                proc.lostInLatestCrash.add(interval);
            }
        }
        proc.chain = stays;
        return proc.lostInLatestCrash.size();
    }

    int restart(int p) {
        if (!named(p) || procs[p].up) {
            return -1;
        }
        Proc proc = procs[p];
        proc.up = true;
        announcements.add(proc.lostInLatestCrash);
        while (proc.learned.size() < announcements.size()) {
            learnOne(proc);
        }
        replay(proc);
        return proc.chain.size();
    }

    int learn(int p) {
        if (refuses(p) || procs[p].learned.size() == announcements.size()) {
            return -1;
        }
        int undone = learnOne(procs[p]);
        if (undone > 0) {
            replay(procs[p]);
        }
        return undone;
    }

    private int learnOne(Proc proc) {
        Set<Interval> lost = announcements.get(proc.learned.size());
        proc.learned.add(lost);
        List<Interval> undone = new ArrayList<>();
        List<Interval> stays = new ArrayList<>();
        for (Interval interval : proc.chain) {
            boolean stands = interval.depends.stream().anyMatch(lost::contains);
            (stands || !undone.isEmpty() ? undone : stays).add(interval);
        }
        proc.chain = stays;
        for (Interval interval : undone) {
            Message message = interval.message;
            message.status = message.stands(proc.knownLost()) ? OrphanRuntime.DISCARDED : OrphanRuntime.WAITING;
        }
        proc.checkpoints.removeIf(length -> length > proc.chain.size());
        return undone.size();
    }

    private void replay(Proc proc) {
        List<Integer> kept = proc.checkpoints;
        proc.replayed += proc.chain.size() - (kept.isEmpty() ? 0 : kept.get(kept.size() - 1));
    }

    int release(int p) {
        if (refuses(p)) {
            return -1;
        }
        int count = 0;
        for (Interval interval : procs[p].chain) {
            boolean has = (interval.state & 4) != 0 && !interval.released;
            if (has && interval.depends.stream().allMatch(i -> i.stable)) {
                interval.released = true;
                procs[p].outputs.add(interval.state);
                count++;
            }
        }
        return count;
    }

    int released(int p, int k) {
        return named(p) && k >= 0 && k < procs[p].outputs.size() ? procs[p].outputs.get(k) : 0;
    }

    int outputs(int p) {
        return named(p) ? procs[p].outputs.size() : -1;
    }

    int state(int p) {
        return refuses(p) ? 0 : procs[p].state();
    }

    int length(int p) {
        return refuses(p) ? -1 : procs[p].chain.size();
    }

    int known(int p) {
        return named(p) ? procs[p].learned.size() : -1;
    }

    int status(int m) {
        return m >= 0 && m < messages.size() ? messages.get(m).status : -1;
    }

    int orphans() {
        int count = 0;
        for (Proc proc : procs) {
            for (Interval interval : proc.chain) {
                count += proc.up && interval.depends.stream().anyMatch(i -> i.lost) ? 1 : 0;
            }
        }
        return count;
    }

    int replayed(int p) {
        return named(p) ? procs[p].replayed : -1;
    }
}
