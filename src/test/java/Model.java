import java.util.ArrayDeque;
import java.util.ArrayList;
import java.util.Deque;
import java.util.List;
import java.util.TreeSet;

/**
 * The document in other words, written with the Java library and without thought of room: each change of a value
 * is kept and taken back one by one, each message is an object, and rings are looked for from every work.
 */
final class Model {
    private static final int NONE = -1;
    private static final int RANGE = -2;
    private static final int STATE = -3;
    private static final int FULL = -4;

    private record Want(boolean message, int what) { }

    private record Change(int copy, int before) { }

    private static final class Message {
        final int from;
        final int to;
        boolean lost;

        Message(int from, int to, boolean lost) {
            this.from = from;
            this.to = to;
            this.lost = lost;
        }
    }

    private static final class Task {
        final List<List<Want>> wants = new ArrayList<>();
        final List<List<Integer>> sends = new ArrayList<>();
        final Deque<Change> changes = new ArrayDeque<>();
        final TreeSet<Integer> copies = new TreeSet<>();
        int failsAt;
        int state;
        int step;
        int got;
        int asked;
        int begun;
        int latest;
        boolean turned;
    }

    private final List<Task> tasks = new ArrayList<>();
    private final List<Message> messages = new ArrayList<>();
    private final List<List<Integer>> lines = new ArrayList<>();
    private final int[] values = new int[10];
    private final List<Integer> log = new ArrayList<>();
    private int toLose;

    Model() {
        for (int i = 0; i < 10; i++) {
            lines.add(new ArrayList<>());
        }
    }

    private Task task(int number) {
        return number >= 0 && number < tasks.size() ? tasks.get(number) : null;
    }

    int work(int steps, int failsAt) {
        if (steps < 1 || steps > 10 || failsAt < -1 || failsAt >= steps) {
            return RANGE;
        }
        if (tasks.size() == 12) {
            return FULL;
        }
        Task made = new Task();
        made.failsAt = failsAt;
        for (int i = 0; i < steps; i++) {
            made.wants.add(new ArrayList<>());
            made.sends.add(new ArrayList<>());
        }
        tasks.add(made);
        return tasks.size() - 1;
    }

    int wants(int work, int step, boolean message, int what) {
        Task t = task(work);
        if (t == null || step < 0 || step >= t.wants.size()) {
            return NONE;
        }
        if (message && (task(what) == null || what == work) || !message && (what < 0 || what > 9)) {
            return RANGE;
        }
        if (t.turned) {
            return STATE;
        }
        List<Want> row = t.wants.get(step);
        if (row.size() == 4) {
            return FULL;
        }
        row.add(new Want(message, what));
        return row.size();
    }

    int sends(int work, int step, int to) {
        Task t = task(work);
        if (t == null || step < 0 || step >= t.sends.size()) {
            return NONE;
        }
        if (task(to) == null || to == work) {
            return RANGE;
        }
        if (t.turned) {
            return STATE;
        }
        List<Integer> row = t.sends.get(step);
        if (row.size() == 2) {
            return FULL;
        }
        row.add(to);
        return row.size();
    }

    int loses(int count) {
        if (count < 0 || count > 100) {
            return RANGE;
        }
        toLose = count;
        return 1;
    }

    int turn(int work) {
        Task t = task(work);
        if (t == null || t.state != 0) {
            return 0;
        }
        t.turned = true;
        List<Want> row = t.wants.get(t.step);
        if (t.got == row.size()) {
            t.latest = t.failsAt == t.step ? fail(work) : act(work);
        } else {
            Want want = row.get(t.got);
            t.latest = want.message() ? takeMessage(work, want.what()) : takeCopy(work, want.what());
            t.got += t.latest == 1 ? 1 : 0;
        }
        return t.latest;
    }

    private int takeCopy(int work, int copy) {
        int owner = has(copy);
        List<Integer> line = lines.get(copy);
        if (owner == work) {
            return 1;
        }
        if (!line.contains(work)) {
            line.add(work);
        }
        if (owner != NONE || line.get(0) != work) {
            return 3;
        }
        line.remove(0);
        tasks.get(work).copies.add(copy);
        return 1;
    }

    private int takeMessage(int work, int from) {
        for (Message m : messages) {
            if (m.from == from && m.to == work && !m.lost) {
                messages.remove(m);
                return 1;
            }
        }
        for (Message m : messages) {
            if (m.from == from && m.to == work) {
                m.lost = false;
                tasks.get(work).asked++;
                return 5;
            }
        }
        return 4;
    }

    private int act(int work) {
        Task t = tasks.get(work);
        for (int copy : t.copies) {
            t.changes.push(new Change(copy, values[copy]));
            values[copy] = 3 * values[copy] + work + 10 * t.step;
        }
        log.add(100 * work + t.step);
        for (int to : t.sends.get(t.step)) {
            messages.add(new Message(work, to, toLose > 0));
            toLose -= toLose > 0 ? 1 : 0;
        }
        t.step++;
        t.got = 0;
        if (t.step == t.wants.size()) {
            t.state = 1;
            t.copies.clear();
        }
        return 2;
    }

    private int fail(int work) {
        undo(work, 2);
        return 6;
    }

    private void undo(int work, int state) {
        Task t = tasks.get(work);
        while (!t.changes.isEmpty()) {
            Change change = t.changes.pop();
            values[change.copy()] = change.before();
        }
        t.copies.clear();
        for (List<Integer> line : lines) {
            line.remove((Integer) work);
        }
        t.state = state;
    }

    int run() {
        int acts = 0;
        boolean goesOn = true;
        while (goesOn) {
            goesOn = false;
            for (int i = 0; i < tasks.size(); i++) {
                int did = turn(i);
                acts += did == 2 ? 1 : 0;
                goesOn |= did == 1 || did == 2 || did == 5 || did == 6;
            }
        }
        return acts;
    }

    int ring() {
        TreeSet<Integer> best = null;
        for (int i = 0; i < tasks.size(); i++) {
            TreeSet<Integer> ring = ringOf(i);
            if (ring != null && (best == null || ring.first() < best.first())) {
                best = ring;
            }
        }
        if (best == null) {
            return NONE;
        }
        undo(best.last(), 3);
        return best.last();
    }

    private TreeSet<Integer> ringOf(int start) {
        TreeSet<Integer> seen = new TreeSet<>();
        int at = start;
        while (seen.add(at)) {
            int next = NONE;
            for (int copy = 0; copy < 10; copy++) {
                next = lines.get(copy).contains(at) ? has(copy) : next;
            }
            if (next == NONE) {
                return null;
            }
            at = next;
        }
        return at == start ? seen : null;
    }

    int interrupt(int work) {
        Task t = task(work);
        if (t == null) {
            return NONE;
        }
        if (t.state != 0 || t.latest != 3 && t.latest != 4) {
            return STATE;
        }
        undo(work, 4);
        return 1;
    }

    int again(int work) {
        Task t = task(work);
        if (t == null) {
            return NONE;
        }
        if (t.state < 2 || t.state > 4) {
            return STATE;
        }
        t.state = 0;
        t.step = 0;
        t.got = 0;
        t.latest = 0;
        t.failsAt = -1;
        return ++t.begun;
    }

    int close() {
        int count = 0;
        for (int i = tasks.size() - 1; i >= 0; i--) {
            if (tasks.get(i).state == 0) {
                undo(i, 5);
                count++;
            }
        }
        return count;
    }

    int state(int work, int what) {
        Task t = task(work);
        if (t == null || what < 0 || what > 4) {
            return NONE;
        }
        return new int[] {t.state, t.step, t.got, t.copies.size(), t.asked}[what];
    }

    int has(int copy) {
        for (int i = 0; i < tasks.size(); i++) {
            if (tasks.get(i).copies.contains(copy)) {
                return i;
            }
        }
        return NONE;
    }

    int line(int copy, int i) {
        return copy >= 0 && copy < 10 && i >= 0 && i < lines.get(copy).size() ? lines.get(copy).get(i) : NONE;
    }

    int value(int copy) throws IndexOutOfBoundsException {
        if (copy < 0 || copy > 9) {
            throw new IndexOutOfBoundsException();
        }
        return values[copy];
    }

    int log(int i) {
        return i >= 0 && i < 300 && i < log.size() ? log.get(i) : NONE;
    }

    int mail(int from, int to) {
        if (task(from) == null || task(to) == null || from == to) {
            return RANGE;
        }
        int count = 0;
        for (Message m : messages) {
            count += m.from == from && m.to == to && !m.lost ? 1 : 0;
        }
        return count;
    }
}
