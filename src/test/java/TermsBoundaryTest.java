/**
 * The sentences of the document's section "Terms" that name a boundary case, each with a run of its
 * own, worked out by hand. In runs of fill() on a store of 3 pages with 1 mutable, the opening of
 * the pages at 12, 24, 36, .. flushes three pages; even keys hang on bucket 1 of 2, odd ones on 0.
 */
public final class TermsBoundaryTest {
    private static final int MIN = Integer.MIN_VALUE;
    private static final int MAX = Integer.MAX_VALUE;
    private static final int[] HASHES = {
        5, 18, 31, 12, 25, 6, 19, 0, 13, 26, 7, 20, 1, 14, 27, 8,
        21, 2, 15, 28, 9, 22, 3, 16, 29, 10, 23, 4, 17, 30, 11, 24};

    private final Due due = new Due();

    public static void main(String[] args) {
        TermsBoundaryTest t = new TermsBoundaryTest();
        t.log();
        t.index();
        t.finding();
        t.writing();
        t.appending();
        t.setting();
        t.checkpoints();
        t.recovery();
        t.compaction();
        t.constants();
        t.due.finish();
    }

    /** A new store for the run that tests this sentence. */
    private Watched on(String sentence, int memory, int mutable) {
        due.part("Terms, \"" + sentence + "\"");
        return new Watched(due, memory, mutable);
    }

    private void log() {
        keys();
        hash();
        firstAndLastAddress();
        valueIsAnInt();
        previousOfTheFirst();
        pageOfFour();
        fiveAddressesAtFirst();
        recordsFromBeginToBelowTail();
        memoryFromHeadOn();
        diskBelowFlushed();
    }

    private void keys() {
        Watched x = on("KEYS are 0 .. 31", 3, 1);
        x.put(0, 7).is(2);
        x.put(31, 8).is(2);
        x.put(-1, 9).is(-1);
        x.put(32, 9).is(-1);
        x.record(0, 0, 7, -1, 1, 0);
        x.record(1, 31, 8, -1, 1, 0);
        x.address(4).is(2);
    }

    private void hash() {
        Watched x = on("the HASH of a key is (13 * key + 5) % 32", 8, 6);
        x.growTo(16);
        for (int key = 0; key < 32; key++) {
            x.put(key, key).is(2);
            x.bucket(HASHES[key] % 16).is(key);
        }
    }

    private void firstAndLastAddress() {
        Watched x = on("The LOG has addresses 0, 1, .. 399", 3, 1);
        x.put(30, 1).is(2);
        x.record(0, 30, 1, -1, 1, 0);
        x.fill(0, 398);
        x.address(4).is(399);
        x.put(31, 2).is(2);
        x.entry(399, 0).is(31);
        x.entry(399, 1).is(2);
        x.address(4).is(400);
        x.put(0, 3).is(-2);
        x.address(4).is(400);
        x.entry(400, 3).is(0);
    }

    private void valueIsAnInt() {
        Watched x = on("a value (an int)", 3, 1);
        int[] values = {MIN, MAX, -1, 0};
        for (int i = 0; i < values.length; i++) {
            x.put(i, values[i]).is(2);
        }
        x.settle(1);
        x.stop();
        x.recover().is(1);
        for (int i = 0; i < values.length; i++) {
            x.found(i, 3, values[i]);
        }
    }

    private void previousOfTheFirst() {
        Watched x = on("a PREVIOUS address (-1: none)", 3, 1);
        x.put(0, 1).is(2);
        x.put(2, 1).is(2);
        x.put(1, 1).is(2);
        x.entry(0, 2).is(-1);
        x.entry(1, 2).is(0);
        x.entry(2, 2).is(-1);
    }

    private void pageOfFour() {
        Watched x = on("A PAGE is four neighbouring addresses, the first of which can be divided by four.", 3, 1);
        int[] fixed = {0, 0, 0, 0, 4, 4, 4, 4, 8, 8, 8, 8, 12};
        for (int i = 0; i < fixed.length; i++) {
            x.fill(i, 1);
            x.address(3).is(fixed[i]);
        }
    }

    private void fiveAddressesAtFirst() {
        Watched x = on("Five addresses: BEGIN <= HEAD <= FLUSHED <= FIXED <= TAIL, at first all 0.", 8, 6);
        x.addresses(0, 0, 0, 0, 0);
    }

    private void recordsFromBeginToBelowTail() {
        Watched x = on("Records are from BEGIN to below TAIL", 3, 1);
        x.fill(0, 13);
        x.compact().is(4);
        x.addresses(4, 8, 12, 16, 17);
        x.record(3, 0, 0, 0, 0, 0);
        x.record(4, 4, 4, 2, 1, 0);
        x.record(16, 3, 3, 14, 1, 0);
        x.record(17, 0, 0, 0, 0, 0);
    }

    private void memoryFromHeadOn() {
        Watched x = on("those from HEAD on lie in memory", 3, 1);
        x.fill(0, 13);
        x.address(1).is(4);
        x.found(4, 2, 4);
        x.found(3, 3, 3);
    }

    private void diskBelowFlushed() {
        Watched x = on("those below FLUSHED on the disk", 3, 1);
        x.fill(0, 6);
        x.settle(1);
        x.fill(6, 1);
        x.addresses(0, 0, 6, 6, 7);
        x.stop();
        x.recover().is(1);
        x.record(5, 5, 5, 3, 1, 0);
        x.record(6, 0, 0, 0, 0, 0);
        x.read(6).is(0);
        x.keys(6);
    }

    private void index() {
        indexAtFirst();
        bucketBelowSplit();
        bucketAtSplit();
        bucketOfEveryKey();
    }

    private void indexAtFirst() {
        Watched x = on("The INDEX has 2^k + SPLIT buckets (at first 2 + 0), each with the address of a record or -1.", 3, 1);
        x.buckets(2);
        x.bucket(0).is(-1);
        x.bucket(1).is(-1);
        x.put(0, 1).is(2);
        x.bucket(0).is(-1);
        x.bucket(1).is(0);
    }

    private void bucketBelowSplit() {
        Watched x = on("or, when that is below SPLIT, hash % 2^(k + 1)", 3, 1);
        x.growTo(6);
        // k is 2, SPLIT 2. Hash 5 (key 0): 5 % 4 = 1 is the last below SPLIT: 5 % 8 = 5.
        x.put(0, 1).is(2);
        x.bucket(5).is(0);
        x.bucket(1).is(-1);
        // Hash 25 (key 4): 25 % 4 = 1, too: 25 % 8 = 1.
        x.put(4, 1).is(2);
        x.bucket(1).is(1);
        x.bucket(5).is(0);
    }

    private void bucketAtSplit() {
        Watched x = on("A key's BUCKET is hash % 2^k", 3, 1);
        x.growTo(6);
        // k is 2, SPLIT 2. Hash 6 (key 5): 6 % 4 = 2 is not below SPLIT.
        x.put(5, 1).is(2);
        x.bucket(2).is(0);
        // Hash 7 (key 10): 7 % 4 = 3.
        x.put(10, 1).is(2);
        x.bucket(3).is(1);
        x.bucket(0).is(-1);
        x.bucket(1).is(-1);
        x.bucket(4).is(-1);
        x.bucket(5).is(-1);
    }

    private void bucketOfEveryKey() {
        for (int buckets = 2; buckets <= 16; buckets++) {
            Watched x = on("A key's BUCKET is hash % 2^k, or, when that is below SPLIT", 8, 6);
            x.growTo(buckets);
            int power = buckets < 4 ? 2 : buckets < 8 ? 4 : buckets < 16 ? 8 : 16;
            for (int key = 0; key < 32; key++) {
                int low = HASHES[key] % power;
                x.put(key, key).is(2);
                x.bucket(low < buckets - power ? HASHES[key] % (2 * power) : low).is(key);
            }
        }
    }

    private void finding() {
        findingEndsAtBegin();
        findingStartsBelowBegin();
        findingEndsAtNone();
        findingOnTheLongestChain();
        findingTheFirst();
        readsAreBelowHead();
        stoneOrNone();
    }

    private void findingEndsAtBegin() {
        Watched x = on("as long as they are not below BEGIN", 3, 1);
        x.fill(0, 13);
        x.compact().is(4);
        x.addresses(4, 8, 12, 16, 17);
        x.reads(4);
        // Bucket 1: 15, 13, 12, 10, 8, 6, 4 (at BEGIN), 2, 0; 6 and 4 are below HEAD.
        x.found(4, 3, 4);
        x.reads(6);
        x.read(14).is(0);
        x.reads(8);
    }

    private void findingStartsBelowBegin() {
        Watched x = on("from its bucket's address on by the previous ones, as long as they are not below BEGIN", 3, 1);
        x.put(1, 1).is(2);
        x.delete(1).is(1);
        for (int i = 1; i <= 12; i++) {
            x.put(2 * i, i).is(2);
        }
        x.compact().is(3);
        x.addresses(4, 4, 12, 12, 16);
        x.reads(4);
        // Bucket 0 has nothing but the stone at 0, which is below BEGIN now.
        x.bucket(0).is(0);
        x.read(1).is(0);
        x.read(3).is(0);
        x.delete(1).is(0);
        x.reads(4);
        x.put(3, 7).is(2);
        x.record(16, 3, 7, 0, 1, 0);
    }

    private void findingEndsAtNone() {
        Watched x = on("(or -1)", 3, 1);
        x.read(1).is(0);
        x.fill(0, 13);
        // Bucket 0: 11, 9, 7, 5, 3, 1 and none before; 3 and 1 are below HEAD.
        x.read(31).is(0);
        x.reads(2);
        // Bucket 1: 12, 10, 8, 6, 4, 2, 0 and none before: the record at 0 is looked at.
        x.read(14).is(0);
        x.reads(4);
        x.found(0, 3, 0);
        x.reads(6);
    }

    private void findingOnTheLongestChain() {
        Watched x = on("from its bucket's address on by the previous ones, as long as they are not below BEGIN (or -1)", 3, 1);
        x.fillOneBucket(400);
        x.address(1).is(388);
        // All 400 records hang on bucket 0, and the one at 0 is looked at last.
        int reads = x.size(3).got();
        x.read(31).is(0);
        x.reads(reads + 388);
        x.keys(15);
    }

    private void findingTheFirst() {
        Watched x = on("to the first record with that key", 3, 1);
        x.put(1, 10).is(2);
        x.fill(2, 4);
        x.put(1, 11).is(2);
        x.found(1, 1, 11);
        x.record(0, 1, 10, -1, 1, 0);
        x.keys(5);
    }

    private void readsAreBelowHead() {
        Watched x = on("each record looked at that lies below HEAD is one READ of the disk", 3, 1);
        x.fill(0, 13);
        x.address(1).is(4);
        x.read(4).is(2);
        x.reads(0);
        x.read(3).is(3);
        x.reads(1);
        x.read(1).is(3);
        x.reads(3);
    }

    private void stoneOrNone() {
        Watched x = on("When that record is a stone, or there is none, the key has no value.", 3, 1);
        x.read(1).is(0);
        x.put(1, 10).is(2);
        x.fill(2, 4);
        x.keys(5);
        x.delete(1).is(2);
        x.record(5, 1, 0, 4, 1, 1);
        x.read(1).is(0);
        x.delete(1).is(0);
        x.keys(4);
    }

    private void writing() {
        fuseAtTheNthBlock();
        fuseOfAWholeFlush();
        fuseOfOneMore();
        fuseIsGone();
        nothingBehindTheStop();
        flushToAPagesEnd();
        flushToMidPage();
        flushFromMidPage();
    }

    private void fuseAtTheNthBlock() {
        Watched x = on("the machine STOPS right behind the n-th block written since then", 3, 1);
        x.fill(0, 13);
        x.blocks(3);
        x.fuse(1).is(true);
        x.fill(13, 11);
        x.blocks(3);
        x.stopped(false);
        x.put(24, 24).is(-9);
        x.blocks(4);
        x.stopped(true);
    }

    private void fuseOfAWholeFlush() {
        Watched x = on("what was to happen behind that does not", 3, 1);
        x.fill(0, 12);
        x.fuse(3).is(true);
        // The third block is the flush's last one; the record is not made all the same.
        x.put(12, 12).is(-9);
        x.blocks(3);
        x.stopped(true);
        x.recover().is(0);
        x.addresses(0, 0, 0, 0, 0);
    }

    private void fuseOfOneMore() {
        Watched x = on("if the FUSE was set to n", 3, 1);
        x.fill(0, 12);
        x.fuse(4).is(true);
        x.put(12, 12).is(2);
        x.blocks(3);
        x.stopped(false);
        x.fill(13, 11);
        x.put(24, 24).is(-9);
        x.blocks(4);
    }

    private void fuseIsGone() {
        Watched x = on("and the fuse is gone", 3, 1);
        x.fill(0, 12);
        x.fuse(1).is(true);
        x.put(12, 12).is(-9);
        x.recover().is(0);
        x.fill(0, 25);
        x.blocks(7);
        x.settle(1);
        x.stopped(false);
    }

    private void nothingBehindTheStop() {
        Watched x = on("right behind the n-th block written since then, and the fuse is gone; what was to happen behind that does not", 3, 1);
        x.fill(0, 12);
        x.fuse(2).is(true);
        x.put(12, 12).is(-9);
        x.blocks(2);
        x.put(12, 12).is(-9);
        x.blocks(2);
    }

    private void flushToAPagesEnd() {
        Watched x = on("or the page's end if that is below x", 3, 1);
        x.fill(0, 8);
        x.checkpoint().is(1);
        x.step().is(1);
        x.step().is(2);
        x.addresses(0, 0, 4, 8, 8);
        x.step().is(2);
        x.addresses(0, 0, 8, 8, 8);
        x.blocks(3);
        x.nextStep(3);
    }

    private void flushToMidPage() {
        Watched x = on("by which FLUSHED becomes x", 3, 1);
        x.fill(0, 6);
        x.checkpoint().is(1);
        x.step().is(1);
        x.step().is(2);
        x.addresses(0, 0, 4, 6, 6);
        x.step().is(2);
        x.addresses(0, 0, 6, 6, 6);
        x.blocks(3);
        x.nextStep(3);
    }

    private void flushFromMidPage() {
        Watched x = on("for each page with addresses from FLUSHED to below x, in their order, a block is written", 3, 1);
        x.fill(0, 6);
        x.settle(1);
        x.blocks(4);
        x.fill(6, 10);
        x.addresses(0, 4, 6, 12, 16);
        x.blocks(4);
        // Pages 4 (from 6 on), 8 and 12.
        x.fill(16, 1);
        x.addresses(0, 8, 16, 16, 17);
        x.blocks(7);
    }

    private void appending() {
        fixedOfOneMutablePage();
        fixedOfSixMutablePages();
        fixedIfGreater();
        headNotBelow();
        flushedAtTheEndOfHeadsPage();
        flushedOneBelowTheEndOfHeadsPage();
        headStaysWhenAbove();
        headThatBeginsItsPage();
        headInMidPage();
        appendedRecord();
    }

    private void fixedOfOneMutablePage() {
        Watched x = on("FIXED becomes the first address of the page mutable - 1 pages before", 3, 1);
        x.fill(0, 4);
        x.address(3).is(0);
        x.fill(4, 1);
        x.address(3).is(4);
        x.fill(5, 3);
        x.address(3).is(4);
    }

    private void fixedOfSixMutablePages() {
        Watched x = on("if TAIL begins a page: FIXED becomes the first address of the page mutable - 1 pages before", 8, 6);
        x.fill(0, 24);
        x.addresses(0, 0, 0, 0, 24);
        x.fill(24, 1);
        x.addresses(0, 0, 0, 4, 25);
        x.put(4, 1).is(1);
        x.put(3, 1).is(2);
    }

    private void fixedIfGreater() {
        Watched x = on("if that is greater", 8, 6);
        x.fill(0, 22);
        x.settle(1);
        x.addresses(0, 0, 22, 22, 22);
        x.fill(22, 3);
        x.addresses(0, 0, 22, 22, 25);
        // The page five pages before 44 begins at 24.
        x.fill(25, 19);
        x.address(3).is(22);
        x.fill(44, 1);
        x.address(3).is(24);
    }

    private void headNotBelow() {
        Watched x = on("if HEAD is below the first address of the page memory - 1 pages before", 3, 1);
        x.fill(0, 12);
        x.addresses(0, 0, 0, 8, 12);
        x.blocks(0);
        x.fill(12, 1);
        x.addresses(0, 4, 12, 12, 13);
        x.blocks(3);
    }

    private void flushedAtTheEndOfHeadsPage() {
        Watched x = on("and FLUSHED is below the end of HEAD's page, there is a flush to FIXED", 3, 1);
        x.fill(0, 20);
        x.addresses(0, 8, 12, 16, 20);
        x.blocks(3);
        // HEAD's page ends at 12, which FLUSHED is not below.
        x.fill(20, 1);
        x.addresses(0, 12, 12, 20, 21);
        x.blocks(3);
    }

    private void flushedOneBelowTheEndOfHeadsPage() {
        Watched x = on("FLUSHED is below the end of HEAD's page, there is a flush to FIXED", 3, 1);
        x.fill(0, 11);
        x.settle(1);
        x.fill(11, 9);
        x.addresses(0, 8, 11, 16, 20);
        x.blocks(5);
        // HEAD's page ends at 12: pages 8 (from 11 on), 12 and 16.
        x.fill(20, 1);
        x.addresses(0, 12, 20, 20, 21);
        x.blocks(8);
    }

    private void headStaysWhenAbove() {
        Watched x = on("then HEAD, if it is below that first address, becomes it", 3, 1);
        x.fill(0, 6);
        x.settle(1);
        x.stop();
        x.recover().is(1);
        int blocks = x.size(2).got();
        x.fill(6, 3);
        x.addresses(0, 6, 6, 8, 9);
        x.fill(9, 7);
        x.addresses(0, 6, 6, 12, 16);
        x.blocks(blocks);
        // 8 is above HEAD at last; FLUSHED 6 is below 8, the end of HEAD's page.
        x.fill(16, 1);
        x.addresses(0, 8, 16, 16, 17);
        x.blocks(blocks + 3);
    }

    private void headThatBeginsItsPage() {
        Watched x = on("the end of HEAD's page", 3, 1);
        x.fill(0, 8);
        x.settle(1);
        x.stop();
        x.recover().is(1);
        int blocks = x.size(2).got();
        x.fill(8, 12);
        x.addresses(0, 8, 8, 16, 20);
        x.blocks(blocks);
        // HEAD 8 begins a page that ends at 12, not at 8.
        x.fill(20, 1);
        x.addresses(0, 12, 20, 20, 21);
        x.blocks(blocks + 3);
    }

    private void headInMidPage() {
        Watched x = on("FLUSHED is below the end of HEAD's page", 3, 1);
        x.fill(0, 6);
        x.settle(1);
        x.stop();
        x.recover().is(1);
        x.fill(6, 2);
        x.settle(3);
        int blocks = x.size(2).got();
        x.fill(8, 8);
        x.addresses(0, 6, 8, 12, 16);
        // The page of HEAD 6 ends at 8, which FLUSHED is not below.
        x.fill(16, 1);
        x.addresses(0, 8, 8, 16, 17);
        x.blocks(blocks);
    }

    private void appendedRecord() {
        Watched x = on("the record is put at TAIL, with the VERSION of the store and its bucket's address as previous", 3, 1);
        x.put(0, 5).is(2);
        x.checkpoint().is(1);
        x.put(0, 6).is(2);
        x.record(0, 0, 5, -1, 1, 0);
        x.record(1, 0, 6, 0, 2, 0);
        x.bucket(1).is(1);
        x.address(4).is(2);
    }

    private void setting() {
        inPlaceAtFixed();
        appendedBelowFixed();
        appendedForAnOlderVersion();
        stoneInPlace();
        stoneNotInPlace();
    }

    private void inPlaceAtFixed() {
        Watched x = on("if its record lies at FIXED or above and has the store's version, it is changed IN PLACE", 4, 2);
        x.fill(0, 9);
        x.address(3).is(4);
        x.put(4, 70).is(1);
        x.record(4, 4, 70, 2, 1, 0);
        x.put(8, 71).is(1);
        x.record(8, 8, 71, 6, 1, 0);
        x.address(4).is(9);
    }

    private void appendedBelowFixed() {
        Watched x = on("otherwise a record is appended", 4, 2);
        x.fill(0, 9);
        x.address(3).is(4);
        x.put(3, 70).is(2);
        x.record(3, 3, 3, 1, 1, 0);
        x.record(9, 3, 70, 7, 1, 0);
    }

    private void appendedForAnOlderVersion() {
        Watched x = on("and has the store's version", 4, 2);
        x.fill(0, 9);
        x.checkpoint().is(1);
        x.put(8, 70).is(2);
        x.put(8, 71).is(1);
        x.record(8, 8, 8, 6, 1, 0);
        x.record(9, 8, 71, 8, 2, 0);
    }

    private void stoneInPlace() {
        Watched x = on("(A stone in place gets a value again likewise.)", 3, 1);
        x.put(1, 10).is(2);
        x.delete(1).is(1);
        x.record(0, 1, 0, -1, 1, 1);
        x.put(1, 11).is(1);
        x.record(0, 1, 11, -1, 1, 0);
        x.delete(1).is(1);
        x.add(1, 12).is(1);
        x.record(0, 1, 12, -1, 1, 0);
        x.address(4).is(1);
        x.keys(1);
    }

    private void stoneNotInPlace() {
        Watched x = on("TO SET a key's value (or make it a stone)", 3, 1);
        x.put(1, 10).is(2);
        x.delete(1).is(1);
        x.checkpoint().is(1);
        x.put(1, 11).is(2);
        x.record(0, 1, 0, -1, 1, 1);
        x.record(1, 1, 11, 0, 2, 0);
        x.keys(1);
    }

    private void checkpoints() {
        versionSaved();
        theSettledOneStays();
        theSettledOneStaysTheThirdTime();
        oldBegin();
        imageBlocks();
        imageByNow();
        fixedAndEndByTheFirstStep();
        endAtTheLogsEnd();
        noBlockForAnEmptyStore();
        endWithoutABlock();
        onePageEach();
        notBeyondEnd();
        metaNext();
        flushedBetweenTheSteps();
    }

    private void versionSaved() {
        Watched x = on("A checkpoint that begins saves the version v that the store has; the store's version becomes v + 1", 3, 1);
        x.version(1);
        x.checkpoint().is(1);
        x.version(2);
        x.stepsBefore(0);
        x.version(2);
        x.checkpoint().is(2);
        x.version(3);
    }

    private void theSettledOneStays() {
        // Blocks of the second checkpoint: two images of six buckets, pages 4 (from 5 on) and 8, META.
        int[] kinds = {1, 1, 2, 2, 3};
        for (int n = 1; n <= kinds.length; n++) {
            Watched x = on("the images and metas of the checkpoint that was settled last stay as they are", 3, 1);
            x.fill(0, 5);
            x.settle(1);
            x.growTo(6);
            x.fill(5, 4);
            x.checkpoint().is(2);
            x.fuse(n).is(true);
            for (int i = 0; i < n - 1; i++) {
                x.step().is(kinds[i]);
            }
            x.step().is(-9);
            boolean second = n == kinds.length;
            x.recover().is(second ? 2 : 1);
            x.version(second ? 4 : 3);
            x.buckets(second ? 6 : 2);
            int end = second ? 9 : 5;
            x.addresses(0, end, end, end, end);
            x.keys(end);
            x.found(0, 3, 0);
            x.found(3, 3, 3);
        }
    }

    private void theSettledOneStaysTheThirdTime() {
        int[] kinds = {1, 2, 3};
        for (int n = 1; n <= kinds.length; n++) {
            Watched x = on("the other ones are written", 3, 1);
            x.put(1, 10).is(2);
            x.settle(1);
            x.put(1, 20).is(2);
            x.settle(2);
            x.put(1, 30).is(2);
            x.checkpoint().is(3);
            x.fuse(n).is(true);
            for (int i = 0; i < n - 1; i++) {
                x.step().is(kinds[i]);
            }
            x.step().is(-9);
            boolean third = n == kinds.length;
            x.recover().is(third ? 3 : 2);
            x.found(1, 3, third ? 30 : 20);
            x.address(4).is(third ? 3 : 2);
        }
    }

    private void oldBegin() {
        Watched x = on("BEGIN and TAIL as they are (the OLD BEGIN and the CUT) and k and SPLIT are noted", 3, 1);
        x.fill(0, 21);
        x.compact().is(4);
        x.address(0).is(4);
        x.growTo(3);
        x.checkpoint().is(1);
        x.compact().is(4);
        x.address(0).is(8);
        int tail = x.address(4).got();
        x.stepsBefore(0);
        x.growTo(5);
        x.stop();
        x.recover().is(1);
        x.addresses(4, tail, tail, tail, tail);
        x.buckets(3);
        x.entry(3, 3).is(0);
        x.entry(4, 3).is(1);
        x.keys(21);
    }

    private void imageBlocks() {
        int[] steps = {1, 1, 1, 2, 2, 2, 2, 3, 3, 3, 3, 4, 4, 4, 4};
        for (int buckets = 2; buckets <= 16; buckets++) {
            Watched x = on("a block with the addresses of the next four buckets (or as many as are left)", 8, 6);
            x.growTo(buckets);
            for (int key = 0; key < 20; key++) {
                x.put(key, key).is(2);
            }
            x.checkpoint().is(1);
            for (int n = 1; n <= steps[buckets - 2]; n++) {
                x.nextStep(1);
                x.step().is(1);
                x.blocks(n);
            }
            x.nextStep(2);
            x.stepsBefore(0);
            int[] addresses = new int[buckets];
            for (int i = 0; i < buckets; i++) {
                addresses[i] = x.bucket(i).got();
            }
            x.stop();
            x.recover().is(1);
            x.buckets(buckets);
            for (int i = 0; i < buckets; i++) {
                x.bucket(i).is(addresses[i]);
            }
        }
    }

    private void imageByNow() {
        Watched x = on("as they are by now, until all are written", 3, 1);
        x.growTo(6);
        // Keys 7 and 0 have hashes 0 and 5: buckets 0 and 5, of the first block and of the second.
        x.put(7, 1).is(2);
        x.put(0, 1).is(2);
        x.checkpoint().is(1);
        x.step().is(1);
        x.put(7, 2).is(2);
        x.put(0, 2).is(2);
        x.stepsBefore(0);
        x.stop();
        x.reads(0);
        x.recover().is(1);
        // Only bucket 5 was written with an address behind the cut.
        x.reads(1);
        x.bucket(0).is(0);
        x.bucket(5).is(1);
    }

    private void fixedAndEndByTheFirstStep() {
        Watched x = on("the first of these steps makes FIXED the TAIL, and that the END", 4, 2);
        x.fill(0, 6);
        x.checkpoint().is(1);
        x.step().is(1);
        x.addresses(0, 0, 0, 0, 6);
        x.put(20, 1).is(2);
        x.step().is(2);
        x.addresses(0, 0, 4, 7, 7);
        x.put(20, 2).is(2);
        x.step().is(2);
        x.addresses(0, 0, 7, 7, 8);
        x.step().is(3);
        x.stop();
        x.recover().is(1);
        x.addresses(0, 7, 7, 7, 7);
    }

    private void endAtTheLogsEnd() {
        Watched x = on("makes FIXED the TAIL, and that the END", 3, 1);
        x.fill(0, 400);
        x.settle(1);
        x.addresses(0, 388, 400, 400, 400);
        x.blocks(102);
        x.put(399 % 31, 1).is(-2);
        x.found(399 % 31, 2, 399);
        x.stop();
        x.recover().is(1);
        x.addresses(0, 400, 400, 400, 400);
        x.found(399 % 31, 3, 399);
        x.put(0, 1).is(-2);
        x.compact().is(-2);
        x.keys(31);
    }

    private void noBlockForAnEmptyStore() {
        Watched x = on("if it is not, already when the first such step comes, that step writes no block", 3, 1);
        x.checkpoint().is(1);
        x.step().is(1);
        x.blocks(1);
        x.nextStep(2);
        x.step().is(2);
        x.blocks(1);
        x.nextStep(3);
        x.step().is(3);
        x.blocks(2);
        x.stop();
        x.recover().is(1);
        x.addresses(0, 0, 0, 0, 0);
        x.version(3);
    }

    private void endWithoutABlock() {
        Watched x = on("it sets FIXED and END all the same", 3, 1);
        x.fill(0, 3);
        x.settle(1);
        x.fill(3, 2);
        x.settle(2);
        int blocks = x.size(2).got();
        // The third writes where the first did, whose END was 3.
        x.settle(3);
        x.blocks(blocks + 2);
        x.addresses(0, 0, 5, 5, 5);
        x.stop();
        x.recover().is(3);
        x.addresses(0, 5, 5, 5, 5);
        x.keys(5);
    }

    private void onePageEach() {
        Watched x = on("flushes one more page towards END, as long as FLUSHED is below it", 8, 6);
        x.fill(0, 14);
        x.checkpoint().is(1);
        x.step().is(1);
        int[] flushed = {4, 8, 12, 14};
        for (int i = 0; i < flushed.length; i++) {
            x.nextStep(2);
            x.step().is(2);
            x.address(2).is(flushed[i]);
            x.address(3).is(14);
            x.blocks(2 + i);
        }
        x.nextStep(3);
    }

    private void notBeyondEnd() {
        Watched x = on("flushes one more page towards END", 3, 1);
        x.fill(0, 6);
        x.checkpoint().is(1);
        x.step().is(1);
        x.step().is(2);
        x.fill(6, 3);
        x.addresses(0, 0, 4, 8, 9);
        // FIXED has gone on, but END has not.
        x.step().is(2);
        x.addresses(0, 0, 6, 8, 9);
        x.nextStep(3);
        x.step().is(3);
        x.stop();
        x.recover().is(1);
        x.addresses(0, 6, 6, 6, 6);
    }

    private void metaNext() {
        Watched x = on("When after a step FLUSHED is not below END, the next step is META: a block, by which the checkpoint is SETTLED.", 3, 1);
        x.fill(0, 4);
        x.checkpoint().is(1);
        x.step().is(1);
        x.step().is(2);
        x.address(2).is(4);
        x.nextStep(3);
        x.blocks(2);
        x.step().is(3);
        x.blocks(3);
        x.nextStep(0);
        x.stop();
        x.recover().is(1);
    }

    private void flushedBetweenTheSteps() {
        Watched x = on("When after a step FLUSHED is not below END", 3, 1);
        x.fill(0, 12);
        x.checkpoint().is(1);
        x.step().is(1);
        x.step().is(2);
        x.addresses(0, 0, 4, 12, 12);
        x.fill(12, 5);
        // The opening of 16 has flushed beyond END, but no step has come since.
        x.addresses(0, 8, 16, 16, 17);
        x.blocks(5);
        x.nextStep(2);
        x.step().is(2);
        x.blocks(5);
        x.addresses(0, 8, 16, 16, 17);
        x.nextStep(3);
        x.step().is(3);
        x.stop();
        x.recover().is(1);
        x.addresses(0, 12, 12, 12, 12);
    }

    private void recovery() {
        memoryIsLost();
        recoveryToNothing();
        recoveryToEnd();
        addressAtTheCut();
        addressesFollowedFar();
        addressFollowedAllTheWay();
        addressFollowedToNone();
        versionAfterRecovery();
        reachedNoMore();
    }

    private void memoryIsLost() {
        Watched x = on("A STOP loses what is in memory.", 3, 1);
        x.put(1, 10).is(2);
        x.settle(1);
        x.put(1, 11).is(2);
        x.put(2, 20).is(2);
        x.stop();
        x.recover().is(1);
        x.found(1, 3, 10);
        x.read(2).is(0);
        x.keys(1);
    }

    private void recoveryToNothing() {
        Watched x = on("if no checkpoint was ever settled, all is as at first, and the version is 1", 3, 1);
        x.growTo(5);
        x.fill(0, 21);
        x.compact().is(4);
        x.checkpoint().is(1);
        x.stepsBefore(2);
        x.fuse(1).is(true);
        x.step().is(-9);
        x.recover().is(0);
        x.version(1);
        x.buckets(2);
        x.bucket(0).is(-1);
        x.bucket(1).is(-1);
        x.addresses(0, 0, 0, 0, 0);
        x.keys(0);
        x.nextStep(0);
        x.put(4, 40).is(2);
        x.record(0, 4, 40, -1, 1, 0);
        x.checkpoint().is(1);
    }

    private void recoveryToEnd() {
        Watched x = on("BEGIN is its old begin, HEAD, FLUSHED, FIXED and TAIL are its END", 3, 1);
        x.fill(0, 5);
        x.checkpoint().is(1);
        // END is set two records behind the cut, and the log goes on behind END.
        x.fill(5, 2);
        x.stepsBefore(3);
        x.fill(7, 14);
        x.step().is(3);
        x.stop();
        x.recover().is(1);
        x.addresses(0, 7, 7, 7, 7);
        x.keys(5);
        x.put(5, 50).is(2);
        x.record(7, 5, 50, 3, 3, 0);
        x.address(4).is(8);
    }

    private void addressAtTheCut() {
        Watched x = on("each address not below the CUT is followed to the previous one until it is below", 3, 1);
        x.fill(0, 3);
        x.checkpoint().is(1);
        // The cut is 3: bucket 0 goes from 1 to 3, bucket 1 stays at 2.
        x.put(1, 9).is(2);
        x.record(3, 1, 9, 1, 2, 0);
        x.stepsBefore(0);
        x.stop();
        x.reads(0);
        x.recover().is(1);
        x.reads(1);
        x.bucket(0).is(1);
        x.bucket(1).is(2);
        x.found(1, 3, 1);
        x.found(2, 3, 2);
    }

    private void addressesFollowedFar() {
        Watched x = on("(each record looked at is one read)", 3, 1);
        x.fill(0, 13);
        x.checkpoint().is(1);
        // Bucket 0 gets 13, 15, 17, 18, bucket 1 gets 14, 16, all behind the cut.
        int[] keys = {1, 2, 3, 4, 5, 7};
        for (int key : keys) {
            x.put(key, 100 + key).is(2);
        }
        x.bucket(0).is(18);
        x.bucket(1).is(16);
        x.stepsBefore(0);
        x.stop();
        int reads = x.size(3).got();
        x.recover().is(1);
        x.reads(reads + 6);
        x.bucket(0).is(11);
        x.bucket(1).is(12);
        for (int key = 0; key < 13; key++) {
            x.found(key, 3, key);
        }
    }

    private void addressFollowedAllTheWay() {
        Watched x = on("is followed to the previous one until it is below (each record looked at is one read)", 3, 1);
        x.checkpoint().is(1);
        // The whole log lies behind the cut, on one bucket.
        x.fillOneBucket(400);
        x.stepsBefore(0);
        x.bucket(0).is(399);
        x.stop();
        int reads = x.size(3).got();
        x.recover().is(1);
        x.reads(reads + 400);
        x.bucket(0).is(-1);
        x.addresses(0, 400, 400, 400, 400);
        x.keys(0);
        x.read(1).is(0);
    }

    private void addressFollowedToNone() {
        Watched x = on("but each address not below the CUT is followed to the previous one", 3, 1);
        x.checkpoint().is(1);
        x.put(1, 10).is(2);
        x.put(3, 30).is(2);
        x.bucket(0).is(1);
        x.bucket(1).is(-1);
        x.stepsBefore(0);
        x.stop();
        x.reads(0);
        x.recover().is(1);
        x.reads(2);
        x.bucket(0).is(-1);
        x.bucket(1).is(-1);
        x.addresses(0, 2, 2, 2, 2);
        x.keys(0);
    }

    private void versionAfterRecovery() {
        Watched x = on("the version is v + 2", 3, 1);
        x.settle(1);
        x.settle(2);
        x.stop();
        x.recover().is(2);
        x.version(4);
        // Once more to the same checkpoint: its version counts, not the store's.
        x.checkpoint().is(4);
        x.version(5);
        x.fuse(1).is(true);
        x.step().is(-9);
        x.recover().is(2);
        x.version(4);
        x.put(1, 10).is(2);
        x.entry(0, 3).is(4);
    }

    private void reachedNoMore() {
        Watched x = on("(Whatever was appended behind the cut is reached no more.)", 3, 1);
        x.put(1, 10).is(2);
        x.put(2, 20).is(2);
        x.checkpoint().is(1);
        x.put(1, 11).is(2);
        x.delete(2).is(2);
        x.put(3, 30).is(2);
        x.stepsBefore(0);
        x.stop();
        x.recover().is(1);
        x.found(1, 3, 10);
        x.found(2, 3, 20);
        x.read(3).is(0);
        x.keys(2);
        // They lie below TAIL all the same.
        x.record(2, 1, 11, 0, 2, 0);
        x.record(4, 3, 30, 2, 2, 0);
    }

    private void compaction() {
        compactedInTheirOrder();
        compactedOnlyWhatIsFound();
        compactedKeyTwiceOnThePage();
        compactedNoStone();
        compactedReads();
        beginAtThePagesEnd();
    }

    private void compactedInTheirOrder() {
        Watched x = on("each of its records from BEGIN on, in their order", 3, 1);
        int[] keys = {30, 1, 29, 0};
        for (int i = 0; i < keys.length; i++) {
            x.put(keys[i], 100 + i).is(2);
        }
        x.fill(4, 9);
        x.settle(1);
        x.compact().is(4);
        // Appended with their keys and values, and the store's version.
        for (int i = 0; i < keys.length; i++) {
            x.entry(13 + i, 0).is(keys[i]);
            x.entry(13 + i, 1).is(100 + i);
            x.entry(13 + i, 3).is(2);
            x.entry(13 + i, 4).is(0);
        }
    }

    private void compactedOnlyWhatIsFound() {
        Watched x = on("that is the one which finding its key would find", 3, 1);
        x.fill(0, 11);
        x.put(1, 21).is(2);
        x.put(3, 23).is(2);
        x.addresses(0, 4, 12, 12, 13);
        x.compact().is(2);
        x.entry(13, 0).is(0);
        x.entry(14, 0).is(2);
        x.address(4).is(15);
        x.found(1, 2, 21);
        x.found(3, 1, 23);
        x.keys(11);
    }

    private void compactedKeyTwiceOnThePage() {
        Watched x = on("which finding its key would find", 3, 1);
        x.put(1, 10).is(2);
        x.checkpoint().is(1);
        x.put(1, 11).is(2);
        x.stepsBefore(0);
        x.checkpoint().is(2);
        x.put(1, 12).is(2);
        x.stepsBefore(0);
        x.fill(2, 14);
        x.address(1).is(8);
        x.compact().is(2);
        x.record(17, 1, 12, 16, 3, 0);
        x.record(18, 2, 2, 15, 3, 0);
        x.found(1, 1, 12);
    }

    private void compactedNoStone() {
        Watched x = on("and no stone, is appended again", 3, 1);
        x.fill(0, 4);
        x.delete(1).is(1);
        x.fill(4, 4);
        x.delete(2).is(2);
        x.fill(9, 4);
        x.addresses(0, 4, 12, 12, 13);
        // 1 is a stone on the page, and a stone behind it hides 2.
        x.compact().is(2);
        x.entry(13, 0).is(0);
        x.entry(14, 0).is(3);
        x.read(1).is(0);
        x.read(2).is(0);
        x.keys(10);
    }

    private void compactedReads() {
        Watched x = on("(this is not counted as reads, but each record gone through is one read)", 3, 1);
        x.fill(0, 13);
        x.reads(0);
        x.compact().is(4);
        x.reads(4);
        // Stones and what is found no more are gone through, too.
        Watched y = new Watched(due, 3, 1);
        y.fill(0, 4);
        y.delete(0).is(1);
        y.fill(4, 1);
        y.put(1, 1).is(2);
        y.put(2, 1).is(2);
        y.put(3, 1).is(2);
        y.fill(5, 5);
        y.addresses(0, 4, 12, 12, 13);
        y.reads(0);
        y.compact().is(0);
        y.reads(4);
    }

    private void beginAtThePagesEnd() {
        Watched x = on("then BEGIN is the page's end", 3, 1);
        x.fill(0, 17);
        x.compact().is(4);
        x.address(0).is(4);
        x.compact().is(4);
        x.address(0).is(8);
        x.compact().is(4);
        x.address(0).is(12);
    }

    private void constants() {
        constantsThemselves();
        downIsAskedFirst();
        badNumbers();
        fullAt400();
    }

    private void constantsThemselves() {
        due.part("Terms, \"The constants\"");
        due.is("DOWN", -9, TailedStore.DOWN);
        due.is("BAD", -1, TailedStore.BAD);
        due.is("FULL", -2, TailedStore.FULL);
        due.is("REFUSED", -3, TailedStore.REFUSED);
    }

    private void downIsAskedFirst() {
        Watched x = on("The machine has stopped (asked first).", 3, 1);
        // Where it ran, each of these would be BAD, FULL or REFUSED, or would do something.
        x.growTo(16);
        x.fill(0, 400);
        x.stop();
        int[] keys = {-1, 0, 30, 31, 32, MIN, MAX};
        for (int key : keys) {
            x.put(key, 1).is(-9);
            x.add(key, 1).is(-9);
            x.delete(key).is(-9);
            x.read(key).is(-9);
        }
        x.checkpoint().is(-9);
        x.step().is(-9);
        x.grow().is(-9);
        x.compact().is(-9);
        int[] numbers = {-1, 0, 4, 5, 16};
        for (int number : numbers) {
            x.address(number).is(-9);
            x.bucket(number).is(-9);
        }
        x.blocks(100);
        x.recover().is(0);
        x.stop();
        x.step().is(-9);
        x.grow().is(-9);
        x.compact().is(-9);
    }

    private void badNumbers() {
        Watched x = on("A number is out of its range.", 3, 1);
        int[] keys = {-1, 32, 33, MIN, MAX};
        for (int key : keys) {
            x.put(key, 1).is(-1);
            x.add(key, 1).is(-1);
            x.delete(key).is(-1);
            x.read(key).is(-1);
        }
        int[] numbers = {-1, 5, 7, MIN, MAX};
        for (int number : numbers) {
            x.address(number).is(-1);
            x.bucket(number).is(-1);
        }
        x.size(-1).is(-1);
        x.size(7).is(-1);
        x.addresses(0, 0, 0, 0, 0);
        x.reads(0);
    }

    private void fullAt400() {
        Watched x = on("TAIL is 400.", 3, 1);
        x.fill(0, 399);
        x.address(4).is(399);
        x.put(31, 1).is(2);
        x.address(4).is(400);
        x.put(5, 1).is(-2);
        x.add(5, 1).is(-2);
        x.delete(5).is(-2);
        x.compact().is(-2);
        x.put(32, 1).is(-1);
        x.address(4).is(400);
    }
}
