import java.util.Arrays;

/**
 * Works that take turns by a schedule: they take copies and messages, act, send, wait, fail and are undone.
 * The promises that the comments name by number stand in the project's document.
 */
public final class LendThreads {
    public static final int NONE = -1;
    public static final int RANGE = -2;
    public static final int STATE = -3;
    public static final int FULL = -4;

    private static final int MOST_WORKS = 12;
    private static final int MOST_COPIES = 10;
    private static final int MOST_STEPS = 10;
    private static final int MOST_WANTS = 4;
    private static final int MOST_SENDS = 2;
    private static final int MOST_LOST = 100;
    private static final int MOST_LOG_LINES = 300;

    // Each round but the last has a turn that takes, asks, acts or fails. A step has at most 4 takings,
    // 4 askings and 1 act, so 12 works of 10 steps have at most 1,080 such turns.
    private static final int MOST_ROUNDS = 1_000_000;

    // What a turn did.
    private static final int DID_NOTHING = 0;
    private static final int DID_TAKE = 1;
    private static final int DID_ACT = 2;
    private static final int DID_WAIT_FOR_COPY = 3;
    private static final int DID_WAIT_FOR_MESSAGE = 4;
    private static final int DID_ASK = 5;
    private static final int DID_FAIL = 6;

    // The states of a work.
    private static final int UNDER_WAY = 0;
    private static final int DONE = 1;
    private static final int FAILED = 2;
    private static final int ABORTED = 3;
    private static final int INTERRUPTED = 4;
    private static final int CLOSED = 5;

    // All works are made at once, so that no call makes an object and no element is null.
    private final Work[] works = new Work[MOST_WORKS];
    private int workCount;
    private final Shelf shelf = new Shelf();
    private final Post post = new Post();
    private final Diary diary = new Diary();

    public LendThreads() {
        for (int i = 0; i < MOST_WORKS; i++) {
            works[i] = new Work(i);
        }
    }

    public int work(int steps, int failsAt) {
        if (steps < 1 || steps > MOST_STEPS || failsAt < NONE || failsAt >= steps) {
            return RANGE;
        }
        if (workCount >= MOST_WORKS) {
            return FULL;
        }
        Work made = works[workCount];
        made.steps = steps;
        made.failsAt = failsAt;
        workCount++;
        return made.number;
    }

    public int wants(int work, int step, boolean message, int what) {
        Work wanting = find(work);
        if (wanting == null || !wanting.isStep(step)) {
            return NONE;
        }
        if (message ? !isOther(work, what) : !isCopy(what)) {
            return RANGE;
        }
        if (wanting.hadTurn) {
            return STATE;
        }
        return wanting.wanted.add(step, message ? MOST_COPIES + what : what);
    }

    public int sends(int work, int step, int to) {
        Work sending = find(work);
        if (sending == null || !sending.isStep(step)) {
            return NONE;
        }
        if (!isOther(work, to)) {
            return RANGE;
        }
        if (sending.hadTurn) {
            return STATE;
        }
        return sending.receivers.add(step, to);
    }

    public int loses(int count) {
        if (count < 0 || count > MOST_LOST) {
            return RANGE;
        }
        post.toLose = count;
        return 1;
    }

    public int turn(int work) {
        Work next = find(work);
        return next == null ? DID_NOTHING : takeTurn(next);
    }

    public int run() {
        int acts = 0;
        boolean goesOn = true;
        for (int round = 0; goesOn && round < MOST_ROUNDS; round++) {
            goesOn = false;
            for (int i = 0; i < workCount; i++) {
                int did = takeTurn(works[i]);
                goesOn = goesOn || !(did == DID_NOTHING || isWaiting(did));
                acts += did == DID_ACT ? 1 : 0;
            }
        }
        return acts;
    }

    public int ring() {
        // The first work that stands in a ring is the least of all works in rings.
        for (int i = 0; i < workCount; i++) {
            int greatest = greatestInRingOf(i);
            if (greatest != NONE) {
                undo(works[greatest], ABORTED);
                return greatest;
            }
        }
        return NONE;
    }

    public int interrupt(int work) {
        Work waiting = find(work);
        if (waiting == null) {
            return NONE;
        }
        if (waiting.state != UNDER_WAY || !isWaiting(waiting.latest)) {
            return STATE;
        }
        undo(waiting, INTERRUPTED);
        return 1;
    }

    public int again(int work) {
        Work ended = find(work);
        if (ended == null) {
            return NONE;
        }
        if (ended.state != FAILED && ended.state != ABORTED && ended.state != INTERRUPTED) {
            return STATE;
        }
        ended.beginAgain();
        return ended.begunAgain;
    }

    public int close() {
        int closed = 0;
        for (int i = workCount - 1; i >= 0; i--) {
            if (works[i].state == UNDER_WAY) {
                undo(works[i], CLOSED);
                closed++;
            }
        }
        return closed;
    }

    public int state(int work, int what) {
        Work asked = find(work);
        if (asked == null) {
            return NONE;
        }
        switch (what) {
            case 0:
                return asked.state;
            case 1:
                return asked.step;
            case 2:
                return asked.got;
            case 3:
                return shelf.countOf(asked.number);
            case 4:
                return asked.askedFor;
            default:
                return NONE;
        }
    }

    public int has(int copy) {
        return isCopy(copy) ? shelf.holders[copy] : NONE;
    }

    public int line(int copy, int i) {
        return shelf.lines.item(copy, i);
    }

    public int value(int copy) throws IndexOutOfBoundsException {
        if (!isCopy(copy)) {
            throw new IndexOutOfBoundsException("no such copy");
        }
        return shelf.values[copy];
    }

    public int log(int i) {
        return diary.lines.item(0, i);
    }

    public int mail(int from, int to) {
        if (find(from) == null || !isOther(from, to)) {
            return RANGE;
        }
        return post.countThere(Post.way(from, to));
    }

    private Work find(int number) {
        return isWork(number) ? works[number] : null;
    }

    private boolean isWork(int number) {
        return number >= 0 && number < workCount;
    }

    private boolean isOther(int number, int other) {
        return isWork(other) && other != number;
    }

    private static boolean isCopy(int copy) {
        return copy >= 0 && copy < MOST_COPIES;
    }

    private static boolean isWaiting(int did) {
        return did == DID_WAIT_FOR_COPY || did == DID_WAIT_FOR_MESSAGE;
    }

    private int takeTurn(Work next) {
        if (next.state != UNDER_WAY) {
            return DID_NOTHING;
        }
        next.hadTurn = true;
        next.latest = next.gotAll() ? actOrFail(next) : goForNext(next);
        return next.latest;
    }

    private int goForNext(Work taking) {
        int wanted = taking.wanted.item(taking.step, taking.got);
        int did = isCopy(wanted) ? goForCopy(taking, wanted) : goForMessage(taking, wanted - MOST_COPIES);
        if (did == DID_TAKE) {
            taking.got++;
        }
        return did;
    }

    private int goForCopy(Work taking, int copy) {
        if (shelf.holders[copy] == taking.number) {
            return DID_TAKE;
        }
        if (shelf.isFreeFor(copy, taking.number)) {
            shelf.take(copy, taking.number);
            return DID_TAKE;
        }
        shelf.standInLine(copy, taking.number);
        return DID_WAIT_FOR_COPY;
    }

    private int goForMessage(Work taking, int from) {
        int way = Post.way(from, taking.number);
        if (post.take(way)) {
            return DID_TAKE;
        }
        if (post.findLost(way)) {
            taking.askedFor++;
            return DID_ASK;
        }
        return DID_WAIT_FOR_MESSAGE;
    }

    private int actOrFail(Work acting) {
        if (acting.step == acting.failsAt) {
            undo(acting, FAILED);
            return DID_FAIL;
        }
        shelf.change(acting.number, acting.step);
        diary.write(acting.number, acting.step);
        sendAll(acting);
        acting.step++;
        acting.got = 0;
        if (acting.step >= acting.steps) {
            acting.state = DONE;
            shelf.release(acting.number);
        }
        return DID_ACT;
    }

    private void sendAll(Work sending) {
        int count = sending.receivers.count(sending.step);
        for (int i = 0; i < count; i++) {
            post.send(Post.way(sending.number, sending.receivers.item(sending.step, i)));
        }
    }

    /** The step and what it has got stay to be seen: only beginning again sets them back. */
    private void undo(Work ending, int state) {
        shelf.restore(ending.number);
        shelf.release(ending.number);
        ending.state = state;
    }

    /** A work waits for one copy at most, so there is one way on from each work, and it comes back or not. */
    private int greatestInRingOf(int first) {
        int greatest = first;
        int at = shelf.holderAwaitedBy(first);
        for (int i = 0; i < MOST_WORKS && at != NONE && at != first; i++) {
            greatest = Math.max(greatest, at);
            at = shelf.holderAwaitedBy(at);
        }
        return at == first ? greatest : NONE;
    }

    /** Rows of numbers, each with room for the same number of items. */
    private static final class Rows {
        private final int room;
        private final int[] counts;
        private final int[] items;

        Rows(int rows, int room) {
            this.room = room;
            counts = new int[rows];
            items = new int[rows * room];
        }

        int count(int row) {
            return row >= 0 && row < counts.length ? counts[row] : 0;
        }

        int item(int row, int i) {
            return i >= 0 && i < count(row) ? items[row * room + i] : NONE;
        }

        int add(int row, int item) {
            if (row < 0 || row >= counts.length || counts[row] >= room) {
                return FULL;
            }
            items[row * room + counts[row]] = item;
            counts[row]++;
            return counts[row];
        }

        int placeOf(int row, int item) {
            int count = count(row);
            for (int i = 0; i < count; i++) {
                if (items[row * room + i] == item) {
                    return i;
                }
            }
            return NONE;
        }

        void remove(int row, int item) {
            int place = placeOf(row, item);
            if (place == NONE) {
                return;
            }
            counts[row]--;
            for (int i = place; i < counts[row]; i++) {
                items[row * room + i] = items[row * room + i + 1];
            }
        }
    }

    /** What is told of a work, and how far it has come. */
    private static final class Work {
        private final int number;
        // A copy's own number, or MOST_COPIES and the number of the work whose message is wanted.
        private final Rows wanted = new Rows(MOST_STEPS, MOST_WANTS);
        private final Rows receivers = new Rows(MOST_STEPS, MOST_SENDS);
        private int steps;
        private int failsAt = NONE;
        private int state = UNDER_WAY;
        private int step;
        private int got;
        private int askedFor;
        private int begunAgain;
        private boolean hadTurn;
        // What its latest turn did since it began, or began again.
        private int latest = DID_NOTHING;

        Work(int number) {
            this.number = number;
        }

        boolean isStep(int number) {
            return number >= 0 && number < steps;
        }

        boolean gotAll() {
            return got >= wanted.count(step);
        }

        void beginAgain() {
            state = UNDER_WAY;
            step = 0;
            got = 0;
            failsAt = NONE;
            latest = DID_NOTHING;
            begunAgain++;
        }
    }

    /** The copies: their values, who has them, and who stands in line for them. Its callers have tested the copy. */
    private static final class Shelf {
        private final int[] values = new int[MOST_COPIES];
        // Nobody else changes a copy that a work has, so the value at the taking is all that undoing needs.
        private final int[] valuesWhenTaken = new int[MOST_COPIES];
        private final int[] holders = new int[MOST_COPIES];
        private final Rows lines = new Rows(MOST_COPIES, MOST_WORKS);

        Shelf() {
            Arrays.fill(holders, NONE);
        }

        boolean isFreeFor(int copy, int number) {
            int first = lines.item(copy, 0);
            return holders[copy] == NONE && (first == NONE || first == number);
        }

        void take(int copy, int number) {
            lines.remove(copy, number);
            holders[copy] = number;
            valuesWhenTaken[copy] = values[copy];
        }

        void standInLine(int copy, int number) {
            if (lines.placeOf(copy, number) == NONE) {
                lines.add(copy, number);
            }
        }

        void change(int number, int step) {
            for (int copy = 0; copy < MOST_COPIES; copy++) {
                if (holders[copy] == number) {
                    values[copy] = values[copy] * 3 + number + 10 * step;
                }
            }
        }

        void restore(int number) {
            for (int copy = 0; copy < MOST_COPIES; copy++) {
                if (holders[copy] == number) {
                    values[copy] = valuesWhenTaken[copy];
                }
            }
        }

        void release(int number) {
            for (int copy = 0; copy < MOST_COPIES; copy++) {
                lines.remove(copy, number);
                if (holders[copy] == number) {
                    holders[copy] = NONE;
                }
            }
        }

        int countOf(int number) {
            int count = 0;
            for (int copy = 0; copy < MOST_COPIES; copy++) {
                count += holders[copy] == number ? 1 : 0;
            }
            return count;
        }

        int holderAwaitedBy(int number) {
            for (int copy = 0; copy < MOST_COPIES; copy++) {
                if (lines.placeOf(copy, number) != NONE) {
                    return holders[copy];
                }
            }
            return NONE;
        }
    }

    /** The messages on each way from one work to another. */
    private static final class Post {
        private final int[] there = new int[MOST_WORKS * MOST_WORKS];
        private final int[] lost = new int[MOST_WORKS * MOST_WORKS];
        private int toLose;

        static int way(int from, int to) {
            return from * MOST_WORKS + to;
        }

        private boolean isWay(int way) {
            return way >= 0 && way < there.length && way < lost.length;
        }

        int countThere(int way) {
            return isWay(way) ? there[way] : 0;
        }

        void send(int way) {
            if (!isWay(way)) {
                return;
            }
            if (toLose > 0) {
                toLose--;
                lost[way]++;
            } else {
                there[way]++;
            }
        }

        boolean take(int way) {
            if (!isWay(way) || there[way] <= 0) {
                return false;
            }
            there[way]--;
            return true;
        }

        boolean findLost(int way) {
            if (!isWay(way) || lost[way] <= 0) {
                return false;
            }
            lost[way]--;
            there[way]++;
            return true;
        }
    }

    /** The log. What does not fit is not told, so it is not kept either. */
    private static final class Diary {
        private final Rows lines = new Rows(1, MOST_LOG_LINES);

        void write(int number, int step) {
            lines.add(0, 100 * number + step);
        }
    }
}
