/**
 * The sentences of promises 1 to 16 that name a boundary case, each with a run of its own, worked
 * out by hand. In runs of fill() on a store of 3 pages with 1 mutable, the opening of the pages at
 * 12, 24, 36, .. flushes three pages; even keys hang on bucket 1 of 2, odd ones on 0.
 */
public final class PromiseBoundaryTest {
    private static final int MIN = Integer.MIN_VALUE;
    private static final int MAX = Integer.MAX_VALUE;
    private static final int[] NO_KEYS = {-1, 32, 33, MIN, MAX};

    private final Due due = new Due();

    public static void main(String[] args) {
        PromiseBoundaryTest t = new PromiseBoundaryTest();
        t.newObject();
        t.put();
        t.add();
        t.delete();
        t.read();
        t.value();
        t.checkpoint();
        t.step();
        t.grow();
        t.compact();
        t.fuse();
        t.recover();
        t.address();
        t.entry();
        t.bucket();
        t.size();
        t.due.finish();
    }

    /** A new store for the run that tests this sentence. */
    private Watched on(int promise, String sentence, int memory, int mutable) {
        due.part("Promise " + promise + ", \"" + sentence + "\"");
        return new Watched(due, memory, mutable);
    }

    private void newObject() {
        memoryPages("3 if that is less than 3", new int[] {MIN, -1, 0, 1, 2}, 3);
        memoryPages("memory pages", new int[] {3}, 3);
        memoryPages("memory pages", new int[] {4}, 4);
        memoryPages("memory pages", new int[] {7}, 7);
        memoryPages("memory pages", new int[] {8}, 8);
        memoryPages("8 if it is more than 8", new int[] {9, 100, MAX}, 8);
        mutablePages("1 if that is less", 8, new int[] {MIN, -1, 0}, 1);
        mutablePages("mutable pages", 8, new int[] {1}, 1);
        mutablePages("mutable pages", 8, new int[] {2}, 2);
        mutablePages("mutable pages", 8, new int[] {6}, 6);
        mutablePages("memory - 2 (as it is then) if it is more", 8, new int[] {7, 8, MAX}, 6);
        mutablePages("memory - 2 (as it is then) if it is more", 5, new int[] {4, 5, MAX}, 3);
        mutablePages("memory - 2 (as it is then)", 9, new int[] {7}, 6);
        mutablePages("memory - 2 (as it is then)", MAX, new int[] {MAX}, 6);
        mutablePages("memory - 2 (as it is then)", 2, new int[] {0, 1, 2, MAX}, 1);
        mutablePages("memory - 2 (as it is then)", MIN, new int[] {MIN, 1, MAX}, 1);
        emptyLogAndDisk();
    }

    private void memoryPages(String sentence, int[] memories, int pages) {
        for (int memory : memories) {
            Watched x = on(1, sentence, memory, 1);
            x.fill(0, 4 * pages);
            x.address(1).is(0);
            x.blocks(0);
            x.fill(4 * pages, 1);
            x.address(1).is(4);
            x.address(2).is(4 * pages);
            x.blocks(pages);
        }
    }

    private void mutablePages(String sentence, int memory, int[] mutables, int pages) {
        for (int mutable : mutables) {
            Watched x = on(1, sentence, memory, mutable);
            x.fill(0, 4 * pages);
            x.address(3).is(0);
            x.fill(4 * pages, 1);
            x.address(3).is(4);
        }
    }

    private void emptyLogAndDisk() {
        Watched x = on(1, "An empty log and disk.", 3, 1);
        x.addresses(0, 0, 0, 0, 0);
        x.buckets(2);
        x.version(1);
        x.blocks(0);
        x.reads(0);
        x.nextStep(0);
        x.stopped(false);
        x.keys(0);
        x.record(0, 0, 0, 0, 0, 0);
        x.read(0).is(0);
        x.read(31).is(0);
        x.stop();
        x.recover().is(0);
    }

    private void put() {
        putInPlaceOrAppended();
        putThatStops();
        putOfNoKey();
        putWhenFull();
        putWhenFullOfAnOlderVersion();
        putInPlaceWhenFull();
    }

    private void putInPlaceOrAppended() {
        Watched x = on(2, "1 if it was done in place, 2 if a record was appended", 3, 1);
        x.put(0, MAX).is(2);
        x.put(0, MIN).is(1);
        x.record(0, 0, MIN, -1, 1, 0);
        x.fill(1, 3);
        x.put(0, 1).is(1);
        x.fill(4, 1);
        x.put(0, 2).is(2);
        x.put(0, 3).is(1);
        x.record(0, 0, 1, -1, 1, 0);
        x.record(5, 0, 3, 4, 1, 0);
        x.address(4).is(6);
    }

    private void putThatStops() {
        Watched x = on(2, "DOWN (also when the machine stops with it)", 3, 1);
        x.fill(0, 12);
        x.fuse(1).is(true);
        x.put(12, 12).is(-9);
        x.stopped(true);
        x.put(12, 12).is(-9);
        x.put(32, 12).is(-9);
        x.blocks(1);
    }

    private void putOfNoKey() {
        Watched x = on(2, "BAD when there is no such key", 3, 1);
        x.fill(0, 13);
        for (int key : NO_KEYS) {
            x.put(key, 1).is(-1);
        }
        x.put(31, 1).is(2);
        x.put(0, 1).is(2);
        x.address(4).is(15);
    }

    private void putWhenFull() {
        Watched x = on(2, "FULL when one had to be appended and TAIL is 400: then nothing is changed (but the reads are counted)", 3, 1);
        x.fill(0, 400);
        x.addresses(0, 388, 396, 396, 400);
        x.blocks(99);
        int reads = x.size(3).got();
        // Key 31 has no record; 188 records of odd keys lie below HEAD.
        x.put(31, 1).is(-2);
        x.reads(reads + 188);
        // Key 5 is at 377; from 387 on, 5, 7, 9, 11, 13, 15 lie on its bucket.
        x.put(5, 1).is(-2);
        x.reads(reads + 188 + 6);
        x.addresses(0, 388, 396, 396, 400);
        x.blocks(99);
        x.found(5, 3, 377);
        x.keys(31);
        x.bucket(0).is(399);
        x.bucket(1).is(398);
    }

    private void putWhenFullOfAnOlderVersion() {
        Watched x = on(2, "FULL when one had to be appended", 3, 1);
        x.fill(0, 400);
        x.put(399 % 31, 1).is(1);
        x.checkpoint().is(1);
        x.put(399 % 31, 2).is(-2);
        x.found(399 % 31, 1, 1);
    }

    private void putInPlaceWhenFull() {
        Watched x = on(2, "one had to be appended and TAIL is 400", 3, 1);
        x.fill(0, 400);
        for (int a = 396; a < 400; a++) {
            x.put(a % 31, -a).is(1);
            x.entry(a, 1).is(-a);
        }
        x.put(395 % 31, 1).is(-2);
        x.put(32, 1).is(-1);
    }

    private void add() {
        addToNone();
        addToAStone();
        addWraps();
        addThatStops();
        addOfNoKey();
        addWhenFull();
    }

    private void addToNone() {
        Watched x = on(3, "the sum of what it has (0 if none) and delta", 3, 1);
        x.add(7, 5).is(2);
        x.found(7, 1, 5);
        x.add(7, -6).is(1);
        x.found(7, 1, -1);
        x.add(7, 0).is(1);
        x.found(7, 1, -1);
        x.fill(0, 4);
        x.add(7, 11).is(2);
        x.record(0, 7, -1, -1, 1, 0);
        x.record(5, 7, 10, 4, 1, 0);
    }

    private void addToAStone() {
        Watched x = on(3, "what it has (0 if none)", 3, 1);
        x.put(7, 50).is(2);
        x.delete(7).is(1);
        x.add(7, 3).is(1);
        x.found(7, 1, 3);
        x.fill(0, 4);
        x.delete(7).is(2);
        x.fill(8, 3);
        // The stone lies below FIXED, and an older record with a value behind it.
        x.add(7, 4).is(2);
        x.found(7, 1, 4);
    }

    private void addWraps() {
        Watched x = on(3, "(it wraps)", 3, 1);
        x.put(1, MAX).is(2);
        x.add(1, 1).is(1);
        x.found(1, 1, MIN);
        x.add(1, -1).is(1);
        x.found(1, 1, MAX);
        x.add(1, MAX).is(1);
        x.found(1, 1, -2);
        x.put(2, MIN).is(2);
        x.add(2, MIN).is(1);
        x.found(2, 1, 0);
        x.put(3, MAX).is(2);
        x.fill(4, 2);
        // The same where a record is appended.
        x.add(3, 2).is(2);
        x.found(3, 1, MIN + 1);
    }

    private void addThatStops() {
        Watched x = on(3, "Answers as put().", 3, 1);
        x.fill(0, 12);
        x.fuse(1).is(true);
        x.add(12, 12).is(-9);
        x.stopped(true);
        x.add(12, 12).is(-9);
        x.add(32, 12).is(-9);
        x.blocks(1);
    }

    private void addOfNoKey() {
        Watched x = on(3, "Answers as put().", 3, 1);
        for (int key : NO_KEYS) {
            x.add(key, 1).is(-1);
        }
        x.add(31, 1).is(2);
        x.add(0, 1).is(2);
        x.address(4).is(2);
    }

    private void addWhenFull() {
        Watched x = on(3, "Answers as put().", 3, 1);
        x.fill(0, 400);
        int reads = x.size(3).got();
        x.add(31, 1).is(-2);
        x.reads(reads + 188);
        x.add(5, 1).is(-2);
        x.reads(reads + 188 + 6);
        x.addresses(0, 388, 396, 396, 400);
        x.blocks(99);
        x.found(5, 3, 377);
        x.add(399 % 31, 1).is(1);
        x.found(399 % 31, 1, 400);
        x.add(-1, 1).is(-1);
    }

    private void delete() {
        deleteInPlaceOrAppended();
        deleteOfNone();
        deleteThatStops();
        deleteOfNoKey();
        deleteWhenFull();
    }

    private void deleteInPlaceOrAppended() {
        Watched x = on(4, "If the key has a value, it becomes a stone: 1 or 2 as with put()", 3, 1);
        x.put(3, 9).is(2);
        x.delete(3).is(1);
        x.record(0, 3, 0, -1, 1, 1);
        x.put(3, 8).is(1);
        x.fill(4, 4);
        x.delete(3).is(2);
        x.record(0, 3, 8, -1, 1, 0);
        x.record(5, 3, 0, 4, 1, 1);
        x.keys(4);
    }

    private void deleteOfNone() {
        Watched x = on(4, "0 when it has none (no record is made)", 3, 1);
        x.delete(3).is(0);
        x.put(3, 0).is(2);
        x.delete(3).is(1);
        x.delete(3).is(0);
        x.address(4).is(1);
        x.checkpoint().is(1);
        // A stone of an older version, and one below FIXED.
        x.delete(3).is(0);
        x.address(4).is(1);
        x.fill(4, 4);
        x.delete(3).is(0);
        x.address(4).is(5);
    }

    private void deleteThatStops() {
        Watched x = on(4, "DOWN, BAD, FULL likewise.", 3, 1);
        x.fill(0, 12);
        x.fuse(1).is(true);
        x.delete(13).is(0);
        x.stopped(false);
        x.delete(0).is(-9);
        x.stopped(true);
        x.delete(13).is(-9);
        x.delete(32).is(-9);
        x.blocks(1);
    }

    private void deleteOfNoKey() {
        Watched x = on(4, "DOWN, BAD, FULL likewise.", 3, 1);
        for (int key : NO_KEYS) {
            x.delete(key).is(-1);
        }
        x.delete(0).is(0);
        x.delete(31).is(0);
    }

    private void deleteWhenFull() {
        Watched x = on(4, "DOWN, BAD, FULL likewise.", 3, 1);
        x.fill(0, 400);
        int reads = x.size(3).got();
        x.delete(5).is(-2);
        x.reads(reads + 6);
        x.delete(31).is(0);
        x.reads(reads + 6 + 188);
        x.addresses(0, 388, 396, 396, 400);
        x.found(5, 3, 377);
        x.delete(399 % 31).is(1);
        x.delete(399 % 31).is(0);
        x.delete(-1).is(-1);
        x.keys(30);
    }

    private void read() {
        readOfNone();
        readWhereItLies();
        readWhenDown();
        readOfNoKey();
    }

    private void readOfNone() {
        Watched x = on(5, "0 when it has no value", 3, 1);
        x.read(3).is(0);
        x.put(3, 0).is(2);
        x.read(3).is(1);
        x.delete(3).is(1);
        x.read(3).is(0);
    }

    private void readWhereItLies() {
        Watched x = on(5, "1 at FIXED or above, 2 in memory below that, 3 below HEAD", 4, 2);
        x.fill(0, 17);
        x.addresses(0, 4, 12, 12, 17);
        x.found(16, 1, 16);
        x.found(12, 1, 12);
        x.found(11, 2, 11);
        x.found(4, 2, 4);
        x.found(3, 3, 3);
        x.found(0, 3, 0);
        x.settle(1);
        x.addresses(0, 4, 17, 17, 17);
        x.found(16, 2, 16);
        x.stop();
        x.recover().is(1);
        x.found(16, 3, 16);
    }

    private void readWhenDown() {
        Watched x = on(5, "DOWN; BAD when there is no such key", 3, 1);
        x.fill(0, 3);
        x.stop();
        x.read(0).is(-9);
        x.read(31).is(-9);
        x.read(32).is(-9);
        x.read(-1).is(-9);
    }

    private void readOfNoKey() {
        Watched x = on(5, "BAD when there is no such key", 3, 1);
        x.fill(0, 13);
        for (int key : NO_KEYS) {
            x.read(key).is(-1);
        }
        x.reads(0);
        x.read(31).is(0);
        x.read(0).is(3);
    }

    private void value() {
        valueOfTheLatestRead();
        valueIsLeft();
        valueWhenThereWasNone();
        valueWhenStopped();
    }

    private void valueOfTheLatestRead() {
        Watched x = on(6, "The value that the latest read() with an answer above 0 found", 3, 1);
        x.fill(1, 13);
        x.found(13, 1, 13);
        x.found(12, 2, 12);
        x.found(1, 3, 1);
        x.put(9, 90).is(2);
        x.value().is(1);
        x.found(9, 1, 90);
    }

    private void valueIsLeft() {
        Watched x = on(6, "(others leave it, recovery, too)", 3, 1);
        x.put(1, 10).is(2);
        x.put(2, 20).is(2);
        x.found(1, 1, 10);
        x.read(3).is(0);
        x.value().is(10);
        x.delete(2).is(1);
        x.read(2).is(0);
        x.value().is(10);
        x.read(32).is(-1);
        x.value().is(10);
        x.put(1, 11).is(1);
        x.add(1, 1).is(1);
        x.delete(1).is(1);
        x.value().is(10);
        x.stop();
        x.read(1).is(-9);
        x.recover().is(0);
        x.value().is(10);
    }

    private void valueWhenThereWasNone() {
        Watched x = on(6, "0 when there was none", 3, 1);
        x.value().is(0);
        x.put(1, 10).is(2);
        x.read(2).is(0);
        x.read(32).is(-1);
        x.value().is(0);
    }

    private void valueWhenStopped() {
        Watched x = on(6, "(Not hindered by a stop.)", 3, 1);
        x.put(1, 10).is(2);
        x.found(1, 1, 10);
        x.stop();
        x.value().is(10);
        x.read(1).is(-9);
        x.value().is(10);
    }

    private void checkpoint() {
        checkpointWhenDown();
        checkpointUnderWay();
        checkpointSettled();
        checkpointAfterRecovery();
    }

    private void checkpointWhenDown() {
        Watched x = on(7, "the version that it saves. DOWN", 3, 1);
        x.stop();
        x.checkpoint().is(-9);
        x.recover().is(0);
        x.checkpoint().is(1);
        // Stopped by a put, with one under way and with none.
        Watched y = new Watched(due, 3, 1);
        y.fill(0, 12);
        y.fuse(1).is(true);
        y.put(12, 12).is(-9);
        y.checkpoint().is(-9);
        y.version(0);
    }

    private void checkpointUnderWay() {
        Watched x = on(7, "REFUSED when one is under way", 3, 1);
        x.fill(0, 5);
        x.checkpoint().is(1);
        int[] kinds = {1, 2, 2, 3};
        for (int kind : kinds) {
            x.checkpoint().is(-3);
            x.version(2);
            x.step().is(kind);
        }
        x.checkpoint().is(2);
    }

    private void checkpointSettled() {
        Watched x = on(7, "(begun, not settled, and no recovery since)", 3, 1);
        x.checkpoint().is(1);
        x.checkpoint().is(-3);
        x.stepsBefore(0);
        x.checkpoint().is(2);
        x.checkpoint().is(-3);
    }

    private void checkpointAfterRecovery() {
        Watched x = on(7, "and no recovery since", 3, 1);
        x.settle(1);
        x.checkpoint().is(2);
        x.fuse(1).is(true);
        x.step().is(-9);
        x.recover().is(1);
        x.checkpoint().is(3);
        x.checkpoint().is(-3);
        x.stepsBefore(0);
        x.stop();
        x.recover().is(3);
    }

    private void step() {
        stepsAsTold();
        stepThatStopsAtImage();
        stepThatStopsAtFlushing();
        stepThatStopsAtMeta();
        stepWithoutABlock();
        stepWhenDown();
        stepWithNoneUnderWay();
    }

    private void stepsAsTold() {
        Watched x = on(8, "1 IMAGE, 2 FLUSHING, 3 META, as told", 3, 1);
        x.growTo(5);
        x.fill(0, 5);
        x.checkpoint().is(1);
        int[] kinds = {1, 1, 2, 2, 3};
        for (int i = 0; i < kinds.length; i++) {
            x.nextStep(kinds[i]);
            x.step().is(kinds[i]);
            x.blocks(i + 1);
        }
        x.nextStep(0);
    }

    private void stepThatStopsAtImage() {
        Watched x = on(8, "DOWN (also when the machine stops with it", 3, 1);
        x.fill(0, 5);
        x.checkpoint().is(1);
        x.fuse(1).is(true);
        x.step().is(-9);
        x.stopped(true);
        x.blocks(1);
        x.recover().is(0);
    }

    private void stepThatStopsAtFlushing() {
        Watched x = on(8, "what its block wrote is written", 3, 1);
        x.fill(0, 5);
        x.checkpoint().is(1);
        x.fuse(3).is(true);
        x.step().is(1);
        x.step().is(2);
        x.step().is(-9);
        x.stopped(true);
        x.blocks(3);
        x.recover().is(0);
        x.address(4).is(0);
    }

    private void stepThatStopsAtMeta() {
        Watched x = on(8, "so the checkpoint is settled if that was META's", 3, 1);
        x.fill(0, 5);
        x.checkpoint().is(1);
        x.fuse(4).is(true);
        x.step().is(1);
        x.step().is(2);
        x.step().is(2);
        x.nextStep(3);
        x.step().is(-9);
        x.stopped(true);
        x.blocks(4);
        x.recover().is(1);
        x.addresses(0, 5, 5, 5, 5);
        x.keys(5);
    }

    private void stepWithoutABlock() {
        Watched x = on(8, "when the machine stops with it", 3, 1);
        x.checkpoint().is(1);
        x.step().is(1);
        x.fuse(1).is(true);
        x.step().is(2);
        x.stopped(false);
        x.step().is(-9);
        x.recover().is(1);
    }

    private void stepWhenDown() {
        Watched x = on(8, "A step of the checkpoint: 1 IMAGE, 2 FLUSHING, 3 META, as told. DOWN", 3, 1);
        x.stop();
        x.step().is(-9);
        x.step().is(-9);
        x.blocks(1);
    }

    private void stepWithNoneUnderWay() {
        Watched x = on(8, "REFUSED when none is under way", 3, 1);
        x.step().is(-3);
        x.blocks(0);
        x.settle(1);
        x.step().is(-3);
        x.blocks(2);
        x.stop();
        x.recover().is(1);
        x.step().is(-3);
        x.blocks(3);
    }

    private void grow() {
        growMakesATwin();
        growThatWraps();
        growFromAllSizes();
        growWhenDown();
        growUnderWay();
        growOfSixteen();
    }

    private void growMakesATwin() {
        Watched x = on(9, "Bucket number SPLIT gets a twin: a new bucket behind all others with the same address", 3, 1);
        x.put(1, 10).is(2);
        x.put(0, 20).is(2);
        x.grow().is(3);
        x.bucket(0).is(0);
        x.bucket(1).is(1);
        x.bucket(2).is(0);
        x.grow().is(4);
        x.bucket(3).is(1);
        x.found(1, 1, 10);
        x.found(0, 1, 20);
    }

    private void growThatWraps() {
        Watched x = on(9, "SPLIT grows by 1; when it is 2^k then, k grows by 1 and SPLIT is 0", 3, 1);
        x.growTo(4);
        // k is 2, SPLIT 0. Hashes 0, 5, 2, 7 (keys 7, 0, 17, 10) in buckets 0, 1, 2, 3.
        int[] keys = {7, 0, 17, 10};
        for (int i = 0; i < keys.length; i++) {
            x.put(keys[i], i).is(2);
            x.bucket(i).is(i);
        }
        for (int i = 0; i < keys.length; i++) {
            x.grow().is(5 + i);
            x.bucket(4 + i).is(i);
        }
        // k is 3, SPLIT 0: bucket 0 is the next one to get a twin.
        x.grow().is(9);
        x.bucket(8).is(0);
    }

    private void growFromAllSizes() {
        Watched x = on(9, "How many buckets there are then", 8, 6);
        for (int key = 0; key < 8; key++) {
            x.put(key, key).is(2);
        }
        for (int n = 3; n <= 16; n++) {
            x.grow().is(n);
            x.buckets(n);
            for (int key = 0; key < 8; key++) {
                x.found(key, 1, key);
            }
        }
    }

    private void growWhenDown() {
        Watched x = on(9, "How many buckets there are then; DOWN", 3, 1);
        x.stop();
        x.grow().is(-9);
        x.recover().is(0);
        x.buckets(2);
        x.grow().is(3);
    }

    private void growUnderWay() {
        Watched x = on(9, "REFUSED when a checkpoint is under way", 3, 1);
        x.fill(0, 3);
        x.checkpoint().is(1);
        for (int kind = 1; kind <= 3; kind++) {
            x.nextStep(kind);
            x.grow().is(-3);
            x.buckets(2);
            x.step().is(kind);
        }
        x.grow().is(3);
        x.stop();
        x.recover().is(1);
        x.grow().is(3);
    }

    private void growOfSixteen() {
        Watched x = on(9, "or there are 16 buckets", 3, 1);
        x.growTo(15);
        x.grow().is(16);
        x.grow().is(-3);
        x.buckets(16);
        x.put(31, 7).is(2);
        // Hash 24 (key 31): 24 % 16 = 8.
        x.bucket(8).is(0);
        x.grow().is(-3);
        x.settle(1);
        x.stop();
        x.recover().is(1);
        x.buckets(16);
        x.grow().is(-3);
        x.found(31, 3, 7);
    }

    private void compact() {
        compactOfSomeRecords();
        compactOfNone();
        compactThatStops();
        compactWhenDown();
        compactAboveHead();
        compactAboveHeadInMidPage();
        compactAtTail396();
        compactAboveTail396();
    }

    private void compactOfSomeRecords() {
        for (int old = 0; old <= 4; old++) {
            Watched x = on(10, "How many records (perhaps none: BEGIN is the page's end all the same) were appended", 3, 1);
            x.fill(0, 9);
            for (int key = 0; key < old; key++) {
                x.put(key, 100 + key).is(2);
            }
            x.fill(9, 4 - old);
            x.addresses(0, 4, 12, 12, 13);
            x.compact().is(4 - old);
            x.address(0).is(4);
            x.address(4).is(17 - old);
        }
    }

    private void compactOfNone() {
        Watched x = on(10, "(perhaps none: BEGIN is the page's end all the same)", 3, 1);
        x.fill(0, 4);
        for (int key = 0; key < 4; key++) {
            x.delete(key).is(1);
        }
        x.fill(4, 9);
        x.compact().is(0);
        x.addresses(4, 4, 12, 12, 13);
        x.compact().is(-3);
    }

    private void compactThatStops() {
        Watched x = on(10, "DOWN (also when the machine stops with it)", 3, 1);
        x.fill(0, 22);
        x.addresses(0, 12, 12, 20, 22);
        x.fuse(1).is(true);
        // 0 and 1 are copied to 22 and 23; the copy of 2 opens the page at 24, which flushes.
        x.compact().is(-9);
        x.stopped(true);
        x.blocks(4);
        x.compact().is(-9);
        x.recover().is(0);
        x.addresses(0, 0, 0, 0, 0);
    }

    private void compactWhenDown() {
        Watched x = on(10, "DOWN (also when the machine stops with it); REFUSED", 3, 1);
        x.stop();
        x.compact().is(-9);
        x.reads(0);
    }

    private void compactAboveHead() {
        Watched x = on(10, "REFUSED when the page's end is above HEAD", 3, 1);
        x.compact().is(-3);
        x.fill(0, 12);
        x.address(1).is(0);
        x.compact().is(-3);
        x.addresses(0, 0, 0, 8, 12);
        x.reads(0);
        x.fill(12, 1);
        x.address(1).is(4);
        x.compact().is(4);
        x.address(1).is(8);
        x.compact().is(4);
    }

    private void compactAboveHeadInMidPage() {
        int[] ends = {3, 4, 5, 7, 8};
        for (int end : ends) {
            Watched x = on(10, "the page's end is above HEAD", 3, 1);
            x.fill(0, end);
            x.settle(1);
            x.stop();
            x.recover().is(1);
            x.addresses(0, end, end, end, end);
            // At most eight records are copied, too few to move HEAD.
            if (end >= 4) {
                x.compact().is(4);
                x.address(0).is(4);
            }
            if (end >= 8) {
                x.compact().is(4);
                x.address(0).is(8);
            }
            x.compact().is(-3);
            x.address(0).is(end / 4 * 4);
        }
    }

    /** Records 0 .. 3 of keys that never come again, and others up to there. */
    private void fillBehindOnePage(Watched x, int tail) {
        for (int i = 0; i < tail; i++) {
            x.put(i < 4 ? 28 + i : i % 27, i).is(2);
        }
    }

    private void compactAtTail396() {
        Watched x = on(10, "FULL when TAIL is above 396", 3, 1);
        fillBehindOnePage(x, 396);
        x.compact().is(4);
        x.addresses(4, 388, 396, 396, 400);
        for (int i = 0; i < 4; i++) {
            x.entry(396 + i, 0).is(28 + i);
            x.entry(396 + i, 1).is(i);
        }
        x.compact().is(-2);
    }

    private void compactAboveTail396() {
        Watched x = on(10, "FULL when TAIL is above 396", 3, 1);
        fillBehindOnePage(x, 396);
        for (int tail = 397; tail <= 400; tail++) {
            x.put(tail % 27, tail).is(2);
            int reads = x.size(3).got();
            x.compact().is(-2);
            x.addresses(0, 388, 396, 396, tail);
            x.reads(reads);
        }
    }

    private void fuse() {
        fuseOfOne();
        fuseOfFifty();
        fuseInstead();
        fuseWhenStopped();
        fuseOutOfRange();
        fuseOutOfRangeSetsNone();
    }

    private void fuseOfOne() {
        Watched x = on(11, "Sets the fuse to n", 3, 1);
        x.fill(0, 12);
        x.fuse(1).is(true);
        x.put(11, 1).is(1);
        x.stopped(false);
        x.put(12, 12).is(-9);
        x.blocks(1);
        x.stopped(true);
    }

    private void fuseOfFifty() {
        Watched x = on(11, "n is not 1 .. 50", 3, 1);
        x.fuse(50).is(true);
        // An empty store's checkpoint writes two blocks.
        for (int v = 1; v <= 24; v++) {
            x.settle(v);
        }
        x.checkpoint().is(25);
        x.step().is(1);
        x.step().is(2);
        x.blocks(49);
        x.stopped(false);
        x.step().is(-9);
        x.blocks(50);
        x.stopped(true);
        x.recover().is(25);
        x.settle(27);
    }

    private void fuseInstead() {
        Watched x = on(11, "instead of one that was set", 3, 1);
        x.fuse(1).is(true);
        x.fuse(4).is(true);
        x.fill(0, 13);
        x.blocks(3);
        x.fuse(2).is(true);
        x.fill(13, 11);
        x.put(24, 24).is(-9);
        x.blocks(5);
    }

    private void fuseWhenStopped() {
        Watched x = on(11, "False when the machine has stopped", 3, 1);
        x.stop();
        x.fuse(1).is(false);
        x.fuse(50).is(false);
        x.fuse(0).is(false);
        x.recover().is(0);
        x.settle(1);
        x.blocks(3);
        x.fuse(1).is(true);
    }

    private void fuseOutOfRange() {
        Watched x = on(11, "or n is not 1 .. 50", 3, 1);
        int[] wrong = {0, -1, 51, 52, MIN, MAX};
        for (int n : wrong) {
            x.fuse(n).is(false);
        }
        // None was set: more blocks than 51 are written.
        for (int v = 1; v <= 27; v++) {
            x.settle(v);
        }
        x.blocks(54);
        x.stopped(false);
    }

    private void fuseOutOfRangeSetsNone() {
        Watched x = on(11, "False when the machine has stopped or n is not 1 .. 50.", 3, 1);
        x.fuse(2).is(true);
        x.fuse(0).is(false);
        x.fuse(51).is(false);
        x.checkpoint().is(1);
        x.step().is(1);
        x.step().is(2);
        x.step().is(-9);
        x.blocks(2);
    }

    private void recover() {
        recoverRunsAgain();
        recoverCountsOn();
        recoverVersion();
        recoverToNone();
        recoverWhenItRuns();
    }

    private void recoverRunsAgain() {
        Watched x = on(12, "the machine runs again, no checkpoint is under way", 3, 1);
        x.fill(0, 3);
        x.checkpoint().is(1);
        x.step().is(1);
        x.fuse(1).is(true);
        x.step().is(-9);
        x.recover().is(0);
        x.stopped(false);
        x.nextStep(0);
        x.step().is(-3);
        x.grow().is(3);
        x.put(1, 10).is(2);
        x.found(1, 1, 10);
    }

    private void recoverCountsOn() {
        Watched x = on(12, "(blocks and reads are counted on)", 3, 1);
        x.fill(0, 13);
        x.read(3).is(3);
        x.settle(1);
        x.put(12, 1).is(2);
        // The flush of three, then image, page 12 (up to 13) and META.
        x.blocks(6);
        x.reads(1);
        x.stop();
        x.blocks(7);
        x.reads(1);
        x.recover().is(1);
        x.blocks(7);
        x.reads(1);
        x.read(12).is(3);
        x.reads(2);
        // A recovery to nothing does not begin them anew, either.
        Watched y = new Watched(due, 3, 1);
        y.fill(0, 13);
        y.read(3).is(3);
        y.stop();
        y.recover().is(0);
        y.blocks(4);
        y.reads(1);
    }

    private void recoverVersion() {
        Watched x = on(12, "The version of the checkpoint that was restored", 3, 1);
        int[] versions = {1, 3, 5};
        for (int v : versions) {
            x.put(1, v).is(2);
            x.settle(v);
            x.put(1, 100).is(2);
            x.stop();
            x.recover().is(v);
            x.version(v + 2);
            x.found(1, 3, v);
        }
    }

    private void recoverToNone() {
        Watched x = on(12, "0 for none", 3, 1);
        x.stop();
        x.recover().is(0);
        x.version(1);
        x.stop();
        x.recover().is(0);
        x.version(1);
    }

    private void recoverWhenItRuns() {
        Watched x = on(12, "REFUSED when it has not stopped", 3, 1);
        x.recover().is(-3);
        x.fill(0, 5);
        x.settle(1);
        x.fill(5, 2);
        x.checkpoint().is(2);
        x.step().is(1);
        x.recover().is(-3);
        x.nextStep(2);
        x.address(4).is(7);
        x.version(3);
        x.stepsBefore(0);
        x.stop();
        x.recover().is(2);
        x.recover().is(-3);
        x.keys(7);
    }

    private void address() {
        addressesByNumber();
        addressOfNoNumber();
        addressWhenDown();
    }

    private void addressesByNumber() {
        Watched x = on(13, "0 BEGIN, 1 HEAD, 2 FLUSHED, 3 FIXED, 4 TAIL", 4, 2);
        x.fill(0, 18);
        x.compact().is(4);
        x.addresses(4, 8, 12, 16, 22);
    }

    private void addressOfNoNumber() {
        Watched x = on(13, "BAD for any other number", 3, 1);
        x.fill(0, 13);
        int[] wrong = {-1, 5, 6, MIN, MAX};
        for (int what : wrong) {
            x.address(what).is(-1);
        }
    }

    private void addressWhenDown() {
        Watched x = on(13, "BAD for any other number; DOWN", 3, 1);
        x.fill(0, 13);
        x.stop();
        for (int what = -1; what <= 5; what++) {
            x.address(what).is(-9);
        }
    }

    private void entry() {
        entryOfAStone();
        entryOutsideTheRecords();
        entryOfNoNumber();
        entryWhenStopped();
    }

    private void entryOfAStone() {
        Watched x = on(14, "0 its key, 1 value (0 of a stone), 2 previous address, 3 version, 4 whether it is a stone (1 or 0)", 3, 1);
        x.fill(0, 3);
        x.put(3, 90).is(2);
        x.delete(3).is(1);
        x.record(3, 3, 0, 1, 1, 1);
        x.checkpoint().is(1);
        x.delete(2).is(2);
        x.record(4, 2, 0, 2, 2, 1);
        x.record(2, 2, 2, 0, 1, 0);
        x.put(2, 91).is(1);
        x.record(4, 2, 91, 2, 2, 0);
    }

    private void entryOutsideTheRecords() {
        Watched x = on(14, "0 when a is not from BEGIN to below TAIL", 3, 1);
        x.record(0, 0, 0, 0, 0, 0);
        x.fill(0, 13);
        x.compact().is(4);
        x.addresses(4, 8, 12, 16, 17);
        int[] outside = {-1, 0, 3, 17, 18, 399, 400, MIN, MAX};
        for (int a : outside) {
            x.record(a, 0, 0, 0, 0, 0);
        }
        x.record(4, 4, 4, 2, 1, 0);
        x.record(16, 3, 3, 14, 1, 0);
        x.reads(4);
    }

    private void entryOfNoNumber() {
        Watched x = on(14, "for any other number", 3, 1);
        x.fill(0, 3);
        int[] wrong = {-1, 5, 6, MIN, MAX};
        for (int what : wrong) {
            x.entry(2, what).is(0);
        }
        x.entry(2, 4).is(0);
        x.entry(2, 0).is(2);
    }

    private void entryWhenStopped() {
        Watched x = on(14, "or when the machine has stopped", 3, 1);
        x.fill(0, 6);
        x.settle(1);
        x.stop();
        x.record(2, 0, 0, 0, 0, 0);
        x.record(5, 0, 0, 0, 0, 0);
        x.recover().is(1);
        x.record(2, 2, 2, 0, 1, 0);
    }

    private void bucket() {
        bucketWhenDown();
        bucketThatIsNot();
        bucketWithoutAnAddress();
        lastOfSixteen();
    }

    private void bucketWhenDown() {
        Watched x = on(15, "The address of bucket i; DOWN", 3, 1);
        x.put(0, 1).is(2);
        x.bucket(1).is(0);
        x.stop();
        for (int i = -1; i <= 2; i++) {
            x.bucket(i).is(-9);
        }
    }

    private void bucketThatIsNot() {
        Watched x = on(15, "BAD when there is no such bucket", 3, 1);
        x.fill(0, 2);
        int[] wrong = {-1, 2, 3, 15, 16, MIN, MAX};
        for (int i : wrong) {
            x.bucket(i).is(-1);
        }
        x.bucket(0).is(1);
        x.bucket(1).is(0);
        // After a recovery to two buckets there is no third one any more.
        x.growTo(4);
        x.bucket(2).is(1);
        x.bucket(3).is(0);
        x.bucket(4).is(-1);
        x.stop();
        x.recover().is(0);
        x.bucket(2).is(-1);
        x.bucket(3).is(-1);
    }

    private void bucketWithoutAnAddress() {
        Watched x = on(15, "(BAD is also the -1 of a bucket without one.)", 3, 1);
        x.bucket(0).is(-1);
        x.bucket(1).is(-1);
        x.put(1, 1).is(2);
        x.bucket(0).is(0);
        x.bucket(1).is(-1);
    }

    private void lastOfSixteen() {
        Watched x = on(15, "when there is no such bucket", 3, 1);
        x.put(1, 1).is(2);
        x.put(0, 1).is(2);
        x.growTo(16);
        x.bucket(14).is(0);
        x.bucket(15).is(1);
        x.bucket(16).is(-1);
    }

    private void size() {
        sizeByNumber();
        sizeSinceTheBeginning();
        sizeOfTheNextStep();
        sizeOfTheKeys();
        sizeWhenStopped();
        sizeOfNoNumber();
    }

    private void sizeByNumber() {
        Watched x = on(16, "0 the buckets, 1 the store's version", 3, 1);
        x.buckets(2);
        x.version(1);
        x.growTo(3);
        x.buckets(3);
        x.checkpoint().is(1);
        x.version(2);
        x.stopped(false);
    }

    private void sizeSinceTheBeginning() {
        Watched x = on(16, "2 the blocks written since the beginning, 3 the reads of the disk since the beginning", 3, 1);
        x.blocks(0);
        x.reads(0);
        x.fill(0, 12);
        x.blocks(0);
        x.fill(12, 1);
        x.blocks(3);
        x.reads(0);
        x.read(3).is(3);
        x.reads(1);
        x.settle(1);
        x.blocks(6);
    }

    private void sizeOfTheNextStep() {
        Watched x = on(16, "4 the checkpoint's next step (0 none under way, 1 IMAGE, 2 FLUSHING, 3 META)", 3, 1);
        x.nextStep(0);
        x.checkpoint().is(1);
        x.nextStep(1);
        x.step().is(1);
        x.nextStep(2);
        x.step().is(2);
        x.nextStep(3);
        x.step().is(3);
        x.nextStep(0);
    }

    private void sizeOfTheKeys() {
        Watched x = on(16, "6 how many keys have a value (not counted as reads)", 3, 1);
        x.keys(0);
        for (int key = 0; key < 32; key++) {
            x.put(key, 0).is(2);
            x.keys(key + 1);
        }
        x.delete(31).is(1);
        x.delete(0).is(2);
        int reads = x.size(3).got();
        x.keys(30);
        x.reads(reads);
    }

    private void sizeWhenStopped() {
        Watched x = on(16, "0, 1, 4 and 6 are 0 while it has stopped", 3, 1);
        x.growTo(3);
        x.fill(0, 13);
        x.read(3).is(3);
        int reads = x.size(3).got();
        x.stop();
        x.size(0).is(0);
        x.size(1).is(0);
        x.size(2).is(4);
        x.size(3).is(reads);
        x.size(4).is(0);
        x.size(5).is(1);
        x.size(6).is(0);
        x.recover().is(0);
        x.size(5).is(0);
    }

    private void sizeOfNoNumber() {
        Watched x = on(16, "BAD for any other number", 3, 1);
        int[] wrong = {-1, 7, 8, MIN, MAX};
        for (int what : wrong) {
            x.size(what).is(-1);
        }
        x.stop();
        for (int what : wrong) {
            x.size(what).is(-1);
        }
    }
}
