/** A store whose calls are named and counted, so that no run goes beyond the 512 calls of the document. */
final class Watched {
    private static final int MOST_CALLS = 512;

    private final Due due;
    private final TailedStore store;
    private int calls;
    private String call;
    private long answer;

    Watched(Due due, int memory, int mutable) {
        this.due = due;
        store = new TailedStore(memory, mutable);
    }

    private Watched asked(String name, long got) {
        calls++;
        if (calls > MOST_CALLS) {
            throw new IllegalStateException("the run asks more than " + MOST_CALLS + " calls");
        }
        call = name;
        answer = got;
        return this;
    }

    /** The answer to the call before has to be this one. */
    void is(long want) {
        due.is("call " + calls + ", " + call + ",", want, answer);
    }

    void is(boolean want) {
        is(want ? 1 : 0);
    }

    int got() {
        return (int) answer;
    }

    Watched put(int key, int value) {
        return asked("put(" + key + ", " + value + ")", store.put(key, value));
    }

    Watched add(int key, int delta) {
        return asked("add(" + key + ", " + delta + ")", store.add(key, delta));
    }

    Watched delete(int key) {
        return asked("delete(" + key + ")", store.delete(key));
    }

    Watched read(int key) {
        return asked("read(" + key + ")", store.read(key));
    }

    Watched value() {
        return asked("value()", store.value());
    }

    Watched checkpoint() {
        return asked("checkpoint()", store.checkpoint());
    }

    Watched step() {
        return asked("step()", store.step());
    }

    Watched grow() {
        return asked("grow()", store.grow());
    }

    Watched compact() {
        return asked("compact()", store.compact());
    }

    Watched fuse(int n) {
        return asked("fuse(" + n + ")", store.fuse(n) ? 1 : 0);
    }

    Watched recover() {
        return asked("recover()", store.recover());
    }

    Watched address(int what) {
        return asked("address(" + what + ")", store.address(what));
    }

    Watched entry(int a, int what) {
        return asked("entry(" + a + ", " + what + ")", store.entry(a, what));
    }

    Watched bucket(int i) {
        return asked("bucket(" + i + ")", store.bucket(i));
    }

    Watched size(int what) {
        return asked("size(" + what + ")", store.size(what));
    }

    void buckets(int want) {
        size(0).is(want);
    }

    void version(int want) {
        size(1).is(want);
    }

    void blocks(int want) {
        size(2).is(want);
    }

    void reads(int want) {
        size(3).is(want);
    }

    void nextStep(int want) {
        size(4).is(want);
    }

    void stopped(boolean want) {
        size(5).is(want);
    }

    void keys(int want) {
        size(6).is(want);
    }

    void addresses(int begin, int head, int flushed, int fixed, int tail) {
        address(0).is(begin);
        address(1).is(head);
        address(2).is(flushed);
        address(3).is(fixed);
        address(4).is(tail);
    }

    void record(int a, int key, int value, int previous, int version, int stone) {
        entry(a, 0).is(key);
        entry(a, 1).is(value);
        entry(a, 2).is(previous);
        entry(a, 3).is(version);
        entry(a, 4).is(stone);
    }

    void found(int key, int where, int value) {
        read(key).is(where);
        value().is(value);
    }

    /**
     * Appends the records from .. from + n - 1 of keys 0 .. 30 in turn; a key comes back too late to
     * be changed in place, and key 31 stays without a record.
     */
    void fill(int from, int n) {
        for (int i = from; i < from + n; i++) {
            put(i % 31, i).is(2);
        }
    }

    /** Appends n records of the odd keys 1 .. 29 in turn, which all hang on bucket 0 of 2. */
    void fillOneBucket(int n) {
        for (int i = 0; i < n; i++) {
            put(1 + 2 * (i % 15), i).is(2);
        }
    }

    void growTo(int buckets) {
        for (int n = size(0).got() + 1; n <= buckets; n++) {
            grow().is(n);
        }
    }

    /** Takes the steps of the checkpoint under way up to the one before the given kind. */
    void stepsBefore(int kind) {
        for (int next = size(4).got(); next != kind && next != 0; next = size(4).got()) {
            step().is(next);
        }
        nextStep(kind);
    }

    /** Takes a whole checkpoint, which saves that version. */
    void settle(int version) {
        checkpoint().is(version);
        stepsBefore(0);
    }

    /** Stops the machine by the first block of a checkpoint. */
    void stop() {
        fuse(1).is(true);
        checkpoint();
        step().is(-9);
        stopped(true);
    }
}
