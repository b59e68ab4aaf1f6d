import java.util.ArrayList;
import java.util.List;
import java.util.function.IntUnaryOperator;

/**
 * The document told a second time, slowly and with a real split: memory and disk are two places,
 * a stop wipes the first, and what lies below HEAD is taken from the second alone.
 */
final class DocModel {
    record Rec(int key, int value, int previous, int version, boolean stone) { }

    record Meta(int version, int begin, int cut, int end, int k, int split, List<Integer> image) { }

    private static final class Stop extends RuntimeException {
        private static final long serialVersionUID = 1L;
    }

    private static final int DOWN = -9;
    private static final int BAD = -1;
    private static final int FULL = -2;
    private static final int REFUSED = -3;

    private final int memoryPages;
    private final int mutablePages;

    // On the disk, or beside the machine.
    private final Rec[] disk = new Rec[400];
    private Meta settled;
    private int blocks;
    private int reads;
    private int fuse;
    private boolean stopped;
    private int lastValue;

    // In memory.
    private Rec[] memory = new Rec[400];
    private List<Integer> buckets = new ArrayList<>(List.of(-1, -1));
    private int k = 1;
    private int split;
    private int begin;
    private int head;
    private int flushed;
    private int fixed;
    private int tail;
    private int version = 1;
    private boolean underWay;
    private int savedVersion;
    private int oldBegin;
    private int cut;
    private int end = -1;
    private boolean metaIsNext;
    private List<Integer> image;

    DocModel(int memory, int mutable) {
        memoryPages = memory < 3 ? 3 : memory > 8 ? 8 : memory;
        mutablePages = mutable < 1 ? 1 : mutable > memoryPages - 2 ? memoryPages - 2 : mutable;
    }

    private Rec at(int a) {
        Rec r = a < head ? disk[a] : memory[a];
        if (r == null) {
            throw new IllegalStateException("no record at " + a);
        }
        return r;
    }

    private int bucketOf(int key) {
        int hash = (13 * key + 5) % 32;
        int b = hash % (int) Math.pow(2, k);
        return b < split ? hash % (int) Math.pow(2, k + 1) : b;
    }

    private int find(int key, boolean counted) {
        for (int a = buckets.get(bucketOf(key)); a != -1 && a >= begin; a = at(a).previous()) {
            if (a < head && counted) {
                reads++;
            }
            if (at(a).key() == key) {
                return a;
            }
        }
        return -1;
    }

    private void block() {
        blocks++;
        if (fuse > 0 && --fuse == 0) {
            stopped = true;
            memory = new Rec[400];
            buckets = null;
            image = null;
            throw new Stop();
        }
    }

    private void flushOnePage(int x) {
        int to = Math.min(x, (flushed / 4 + 1) * 4);
        for (int a = flushed; a < to; a++) {
            disk[a] = memory[a];
        }
        flushed = to;
        block();
    }

    private void append(int key, int value, boolean stone) {
        if (tail % 4 == 0) {
            int page = tail / 4;
            if ((page - (mutablePages - 1)) * 4 > fixed) {
                fixed = (page - (mutablePages - 1)) * 4;
            }
            int first = (page - (memoryPages - 1)) * 4;
            if (head < first && flushed < (head / 4 + 1) * 4) {
                while (flushed < fixed) {
                    flushOnePage(fixed);
                }
            }
            while (head < first) {
                memory[head++] = null;
            }
        }
        int b = bucketOf(key);
        memory[tail] = new Rec(key, value, buckets.get(b), version, stone);
        buckets.set(b, tail++);
    }

    private boolean has(int a) {
        return a != -1 && !at(a).stone();
    }

    /** The new value from the old one; for a delete, none is made of what has none. */
    private int set(int key, IntUnaryOperator change, boolean stone) {
        if (stopped) {
            return DOWN;
        }
        if (key < 0 || key > 31) {
            return BAD;
        }
        int a = find(key, true);
        if (stone && !has(a)) {
            return 0;
        }
        int value = stone ? 0 : change.applyAsInt(has(a) ? at(a).value() : 0);
        if (a >= fixed && at(a).version() == version) {
            memory[a] = new Rec(key, value, at(a).previous(), version, stone);
            return 1;
        }
        if (tail == 400) {
            return FULL;
        }
        try {
            append(key, value, stone);
            return 2;
        } catch (Stop s) {
            return DOWN;
        }
    }

    int put(int key, int value) {
        return set(key, old -> value, false);
    }

    int add(int key, int delta) {
        return set(key, old -> old + delta, false);
    }

    int delete(int key) {
        return set(key, old -> 0, true);
    }

    int read(int key) {
        if (stopped) {
            return DOWN;
        }
        if (key < 0 || key > 31) {
            return BAD;
        }
        int a = find(key, true);
        if (!has(a)) {
            return 0;
        }
        lastValue = at(a).value();
        return a >= fixed ? 1 : a >= head ? 2 : 3;
    }

    int value() {
        return lastValue;
    }

    int checkpoint() {
        if (stopped) {
            return DOWN;
        }
        if (underWay) {
            return REFUSED;
        }
        underWay = true;
        savedVersion = version++;
        oldBegin = begin;
        cut = tail;
        end = -1;
        metaIsNext = false;
        image = new ArrayList<>();
        return savedVersion;
    }

    int step() {
        if (stopped) {
            return DOWN;
        }
        if (!underWay) {
            return REFUSED;
        }
        try {
            return nextStep(next());
        } catch (Stop s) {
            return DOWN;
        }
    }

    private int nextStep(int kind) {
        if (kind == 1) {
            image.addAll(buckets.subList(image.size(), Math.min(buckets.size(), image.size() + 4)));
            block();
        } else if (kind == 2) {
            if (end == -1) {
                end = fixed = tail;
            }
            if (flushed < end) {
                flushOnePage(end);
            }
            metaIsNext = flushed >= end;
        } else {
            settled = new Meta(savedVersion, oldBegin, cut, end, k, split, List.copyOf(image));
            underWay = false;
            block();
        }
        return kind;
    }

    private int next() {
        return !underWay ? 0 : image.size() < buckets.size() ? 1 : metaIsNext ? 3 : 2;
    }

    int grow() {
        if (stopped) {
            return DOWN;
        }
        if (underWay || buckets.size() == 16) {
            return REFUSED;
        }
        buckets.add(buckets.get(split++));
        if (split == (int) Math.pow(2, k)) {
            k++;
            split = 0;
        }
        return buckets.size();
    }

    int compact() {
        if (stopped) {
            return DOWN;
        }
        int pageEnd = (begin / 4 + 1) * 4;
        if (pageEnd > head) {
            return REFUSED;
        }
        if (tail > 396) {
            return FULL;
        }
        int count = 0;
        try {
            for (int a = begin; a < pageEnd; a++) {
                reads++;
                Rec r = disk[a];
                if (!r.stone() && find(r.key(), false) == a) {
                    append(r.key(), r.value(), false);
                    count++;
                }
            }
        } catch (Stop s) {
            return DOWN;
        }
        begin = pageEnd;
        return count;
    }

    boolean fuse(int n) {
        if (stopped || n < 1 || n > 50) {
            return false;
        }
        fuse = n;
        return true;
    }

    int recover() {
        if (!stopped) {
            return REFUSED;
        }
        stopped = false;
        underWay = false;
        if (settled == null) {
            begin = head = flushed = fixed = tail = 0;
            k = 1;
            split = 0;
            buckets = new ArrayList<>(List.of(-1, -1));
            version = 1;
            return 0;
        }
        begin = settled.begin();
        head = flushed = fixed = tail = settled.end();
        k = settled.k();
        split = settled.split();
        buckets = new ArrayList<>();
        for (int a : settled.image()) {
            while (a >= settled.cut()) {
                a = disk[a].previous();
                reads++;
            }
            buckets.add(a);
        }
        version = settled.version() + 2;
        return settled.version();
    }

    int address(int what) {
        if (stopped) {
            return DOWN;
        }
        int[] all = {begin, head, flushed, fixed, tail};
        return what < 0 || what >= all.length ? BAD : all[what];
    }

    int entry(int a, int what) {
        if (stopped || a < begin || a >= tail || what < 0 || what > 4) {
            return 0;
        }
        Rec r = at(a);
        return new int[] {r.key(), r.value(), r.previous(), r.version(), r.stone() ? 1 : 0}[what];
    }

    int bucket(int i) {
        return stopped ? DOWN : i < 0 || i >= buckets.size() ? BAD : buckets.get(i);
    }

    int size(int what) {
        if (what < 0 || what > 6) {
            return BAD;
        }
        if (stopped) {
            return new int[] {0, 0, blocks, reads, 0, 1, 0}[what];
        }
        int count = 0;
        for (int key = 0; key < 32; key++) {
            count += has(find(key, false)) ? 1 : 0;
        }
        return new int[] {buckets.size(), version, blocks, reads, next(), 0, count}[what];
    }
}
