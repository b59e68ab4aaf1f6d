import java.util.Arrays;

/** A store of values by keys on one growing log, with checkpoints and recovery after a stop. */
public final class TailedStore {
    public static final int DOWN = -9;
    public static final int BAD = -1;
    public static final int FULL = -2;
    public static final int REFUSED = -3;

    private static final int KEYS = 32;
    private static final int ADDRESSES = 400;
    private static final int PAGE = 4;
    private static final int PAGES = ADDRESSES / PAGE;
    private static final int MOST_BUCKETS = 16;
    private static final int IMAGE_BLOCK = 4;
    private static final int LONGEST_FUSE = 50;
    private static final int LEAST_MEMORY = 3;
    private static final int MOST_MEMORY = 8;
    private static final int FIRST_VERSION = 1;
    private static final int NONE = -1;

    private static final int IN_PLACE = 1;
    private static final int APPENDED = 2;

    private static final int IDLE = 0;
    private static final int IMAGE = 1;
    private static final int FLUSHING = 2;
    private static final int META = 3;

    private final int memory;
    private final int mutable;
    private final Machine machine = new Machine();
    private final Index index = new Index();

    // One row serves memory and disk: what is flushed lies below FIXED and is never changed in
    // place, so both hold the same record wherever a record can still be reached.
    private final Records log = new Records();

    private int begin;
    private int head;
    private int flushed;
    private int fixed;
    private int tail;
    private int version = FIRST_VERSION;
    private int valueRead;

    // The two places on the disk; they change roles when a checkpoint is settled.
    private Saved settled = new Saved();
    private Saved written = new Saved();
    private int nextStep = IDLE;
    private int bucketsImaged;
    private boolean endIsSet;

    public TailedStore(int memory, int mutable) {
        this.memory = Math.max(LEAST_MEMORY, Math.min(MOST_MEMORY, memory));
        this.mutable = Math.max(1, Math.min(this.memory - 2, mutable));
    }

    public int put(int key, int value) {
        if (machine.stopped) {
            return DOWN;
        }
        if (!isKey(key)) {
            return BAD;
        }
        return change(find(key, true), key, value, false);
    }

    public int add(int key, int delta) {
        if (machine.stopped) {
            return DOWN;
        }
        if (!isKey(key)) {
            return BAD;
        }
        int found = find(key, true);
        int sum = hasValue(found) ? log.values[found] + delta : delta;
        return change(found, key, sum, false);
    }

    public int delete(int key) {
        if (machine.stopped) {
            return DOWN;
        }
        if (!isKey(key)) {
            return BAD;
        }
        int found = find(key, true);
        return hasValue(found) ? change(found, key, 0, true) : 0;
    }

    public int read(int key) {
        if (machine.stopped) {
            return DOWN;
        }
        if (!isKey(key)) {
            return BAD;
        }
        int found = find(key, true);
        if (!hasValue(found)) {
            return 0;
        }
        valueRead = log.values[found];
        return found >= fixed ? 1 : found >= head ? 2 : 3;
    }

    public int value() {
        return valueRead;
    }

    public int checkpoint() {
        if (machine.stopped) {
            return DOWN;
        }
        if (nextStep != IDLE) {
            return REFUSED;
        }
        written.version = version;
        written.begin = begin;
        written.cut = tail;
        written.image.level = index.level;
        written.image.split = index.split;
        version++;
        bucketsImaged = 0;
        endIsSet = false;
        nextStep = IMAGE;
        return written.version;
    }

    public int step() {
        if (machine.stopped) {
            return DOWN;
        }
        int now = nextStep;
        switch (now) {
            case IMAGE:
                return writeImageBlock() ? now : DOWN;
            case FLUSHING:
                return flushTowardsEnd() ? now : DOWN;
            case META:
                return settle() ? now : DOWN;
            default:
                return REFUSED;
        }
    }

    public int grow() {
        if (machine.stopped) {
            return DOWN;
        }
        if (nextStep != IDLE || index.count() >= MOST_BUCKETS) {
            return REFUSED;
        }
        index.twin();
        return index.count();
    }

    public int compact() {
        if (machine.stopped) {
            return DOWN;
        }
        int end = pageEnd(begin);
        if (end > head) {
            return REFUSED;
        }
        if (tail > ADDRESSES - PAGE) {
            return FULL;
        }
        int appended = 0;
        for (int a = begin; a < end; a++) {
            machine.reads++;
            if (isLatest(a)) {
                if (!append(log.keys[a], log.values[a], false)) {
                    return DOWN;
                }
                appended++;
            }
        }
        begin = end;
        return appended;
    }

    public boolean fuse(int n) {
        if (machine.stopped || n < 1 || n > LONGEST_FUSE) {
            return false;
        }
        machine.blocksLeft = n;
        return true;
    }

    public int recover() {
        if (!machine.stopped) {
            return REFUSED;
        }
        machine.stopped = false;
        nextStep = IDLE;
        // A place that was never settled is empty (all 0, version 0), so the addresses fit it too.
        begin = settled.begin;
        head = settled.end;
        flushed = settled.end;
        fixed = settled.end;
        tail = settled.end;
        restoreIndex();
        version = settled.version == 0 ? FIRST_VERSION : settled.version + 2;
        return settled.version;
    }

    public int address(int what) {
        if (machine.stopped) {
            return DOWN;
        }
        switch (what) {
            case 0:
                return begin;
            case 1:
                return head;
            case 2:
                return flushed;
            case 3:
                return fixed;
            case 4:
                return tail;
            default:
                return BAD;
        }
    }

    public int entry(int a, int what) {
        if (machine.stopped || a < begin || a >= tail) {
            return 0;
        }
        switch (what) {
            case 0:
                return log.keys[a];
            case 1:
                return log.values[a];
            case 2:
                return log.previous[a];
            case 3:
                return log.versions[a];
            case 4:
                return log.stones[a] ? 1 : 0;
            default:
                return 0;
        }
    }

    public int bucket(int i) {
        if (machine.stopped) {
            return DOWN;
        }
        if (i < 0 || i >= index.count()) {
            return BAD;
        }
        return index.buckets[i];
    }

    public int size(int what) {
        boolean runs = !machine.stopped;
        switch (what) {
            case 0:
                return runs ? index.count() : 0;
            case 1:
                return runs ? version : 0;
            case 2:
                return machine.blocks;
            case 3:
                return machine.reads;
            case 4:
                return runs ? nextStep : 0;
            case 5:
                return runs ? 0 : 1;
            case 6:
                return runs ? keysWithValue() : 0;
            default:
                return BAD;
        }
    }

    private static boolean isKey(int key) {
        return key >= 0 && key < KEYS;
    }

    private static int pageEnd(int a) {
        return a - a % PAGE + PAGE;
    }

    /** The address of the first record with that key on its chain, or NONE. */
    private int find(int key, boolean counted) {
        int a = index.buckets[index.bucketOf(key)];
        for (int n = 0; n < ADDRESSES && a >= begin; n++) {
            if (counted && a < head) {
                machine.reads++;
            }
            if (log.keys[a] == key) {
                return a;
            }
            a = log.previous[a];
        }
        return NONE;
    }

    private boolean hasValue(int found) {
        return found != NONE && !log.stones[found];
    }

    private boolean isLatest(int a) {
        return hasValue(a) && find(log.keys[a], false) == a;
    }

    private int keysWithValue() {
        int count = 0;
        for (int key = 0; key < KEYS; key++) {
            if (hasValue(find(key, false))) {
                count++;
            }
        }
        return count;
    }

    private int change(int found, int key, int value, boolean stone) {
        if (found != NONE && found >= fixed && log.versions[found] == version) {
            log.values[found] = value;
            log.stones[found] = stone;
            return IN_PLACE;
        }
        if (tail >= ADDRESSES) {
            return FULL;
        }
        return append(key, value, stone) ? APPENDED : DOWN;
    }

    /** False when the machine stopped before the record was made. */
    private boolean append(int key, int value, boolean stone) {
        if (tail % PAGE == 0 && !openPage()) {
            return false;
        }
        int bucket = index.bucketOf(key);
        log.keys[tail] = key;
        log.values[tail] = value;
        log.previous[tail] = index.buckets[bucket];
        log.versions[tail] = version;
        log.stones[tail] = stone;
        index.buckets[bucket] = tail;
        tail++;
        return true;
    }

    /** Moves FIXED and HEAD on for the page that TAIL begins; false when the machine stopped. */
    private boolean openPage() {
        fixed = Math.max(fixed, tail - (mutable - 1) * PAGE);
        int newHead = tail - (memory - 1) * PAGE;
        if (head < newHead && flushed < pageEnd(head) && !flush(fixed)) {
            return false;
        }
        head = Math.max(head, newHead);
        return true;
    }

    private boolean flush(int target) {
        for (int n = 0; n < PAGES && flushed < target; n++) {
            if (!flushPage(target)) {
                return false;
            }
        }
        return true;
    }

    private boolean flushPage(int target) {
        flushed = Math.min(target, pageEnd(flushed));
        return machine.writeBlock();
    }

    private boolean writeImageBlock() {
        int count = index.count();
        int upTo = Math.min(count, bucketsImaged + IMAGE_BLOCK);
        for (int i = bucketsImaged; i < upTo; i++) {
            written.image.buckets[i] = index.buckets[i];
        }
        bucketsImaged = upTo;
        if (bucketsImaged >= count) {
            nextStep = FLUSHING;
        }
        return machine.writeBlock();
    }

    private boolean flushTowardsEnd() {
        if (!endIsSet) {
            fixed = tail;
            written.end = tail;
            endIsSet = true;
        }
        // An append between two steps may have flushed beyond END: then no page is left to write.
        if (flushed < written.end && !flushPage(written.end)) {
            return false;
        }
        if (flushed >= written.end) {
            nextStep = META;
        }
        return true;
    }

    private boolean settle() {
        Saved other = settled;
        settled = written;
        written = other;
        nextStep = IDLE;
        return machine.writeBlock();
    }

    private void restoreIndex() {
        index.level = settled.image.level;
        index.split = settled.image.split;
        int count = index.count();
        for (int i = 0; i < count; i++) {
            index.buckets[i] = lastBelowCut(settled.image.buckets[i]);
        }
    }

    private int lastBelowCut(int address) {
        int a = address;
        for (int n = 0; n < ADDRESSES && a >= settled.cut; n++) {
            machine.reads++;
            a = log.previous[a];
        }
        return a;
    }

    /** What a stop leaves alone: the counters, and the fuse that brings it about. */
    private static final class Machine {
        boolean stopped;
        int blocksLeft;
        int blocks;
        int reads;

        /** False when the machine stops right behind the block. */
        boolean writeBlock() {
            blocks++;
            if (blocksLeft > 0) {
                blocksLeft--;
                stopped = blocksLeft == 0;
            }
            return !stopped;
        }
    }

    /** The records of the log, by address. */
    private static final class Records {
        final int[] keys = new int[ADDRESSES];
        final int[] values = new int[ADDRESSES];
        final int[] previous = new int[ADDRESSES];
        final int[] versions = new int[ADDRESSES];
        final boolean[] stones = new boolean[ADDRESSES];
    }

    /** 2^level + split buckets. */
    private static final class Index {
        int level = 1;
        int split;
        final int[] buckets = new int[MOST_BUCKETS];

        Index() {
            Arrays.fill(buckets, NONE);
        }

        int count() {
            return (1 << level) + split;
        }

        int bucketOf(int key) {
            int hash = (13 * key + 5) % KEYS;
            int low = hash % (1 << level);
            return low < split ? hash % (1 << (level + 1)) : low;
        }

        void twin() {
            buckets[count()] = buckets[split];
            split++;
            if (split == 1 << level) {
                level++;
                split = 0;
            }
        }
    }

    /** A meta place and its image; version 0 until a checkpoint has been noted there. */
    private static final class Saved {
        int version;
        int begin;
        int cut;
        int end;
        final Index image = new Index();
    }
}
