/** Each promise of the document by runs worked out by hand: ordinary inputs, edges, wrong inputs. */
public final class PromisesTest {
    private static final int MIN = Integer.MIN_VALUE;
    private static final int MAX = Integer.MAX_VALUE;
    private final Due due = new Due();

    public static void main(String[] args) {
        PromisesTest t = new PromisesTest();
        t.constants();
        t.newObject();
        t.pagesAreClamped();
        t.put();
        t.putWhereVersionsOrFixedHinder();
        t.putWhenFull();
        t.add();
        t.delete();
        t.read();
        t.readsAreCounted();
        t.value();
        t.checkpoint();
        t.step();
        t.stepFixesForGood();
        t.stepWithNothingToFlush();
        t.stepBehindAnotherFlush();
        t.stepStopped();
        t.imageIsTakenInParts();
        t.grow();
        t.growIsSaved();
        t.compact();
        t.compactBeforeCheckpoint();
        t.compactUnderCheckpoint();
        t.compactStopped();
        t.compactAtTheEnd();
        t.compactRefusedBeforeFull();
        t.fuse();
        t.recover();
        t.recoverTwice();
        t.recoverToTheNewerOfTwo();
        t.recoverInMidPage();
        t.address();
        t.entry();
        t.bucket();
        t.size();
        t.due.finish();
    }

    /** Appends n records: 31 keys in turn come back too late to be changed in place. */
    private void fill(TailedStore x, int from, int n) {
        for (int i = from; i < from + n; i++) {
            due.is("put(" + i % 31 + ", " + i + ")", 2, x.put(i % 31, i));
        }
    }

    private void addresses(TailedStore x, int begin, int head, int flushed, int fixed, int tail) {
        int[] want = {begin, head, flushed, fixed, tail};
        for (int i = 0; i < want.length; i++) {
            due.is("address(" + i + ")", want[i], x.address(i));
        }
    }

    private void record(TailedStore x, int a, int key, int value, int previous, int version, int stone) {
        int[] want = {key, value, previous, version, stone};
        for (int i = 0; i < want.length; i++) {
            due.is("entry(" + a + ", " + i + ")", want[i], x.entry(a, i));
        }
    }

    private void found(TailedStore x, int key, int where, int value) {
        due.is("read(" + key + ")", where, x.read(key));
        due.is("value() of " + key, value, x.value());
    }

    /** Takes a whole checkpoint, which saves that version. */
    private void settle(TailedStore x, int version) {
        due.is("checkpoint()", version, x.checkpoint());
        for (int n = 0; n < 200 && x.size(4) != 0; n++) {
            due.is("step()", x.size(4), x.step());
        }
        due.is("size(4) when settled", 0, x.size(4));
    }

    /** Stops the machine by the first block of a checkpoint. */
    private void stop(TailedStore x) {
        due.is("fuse(1)", true, x.fuse(1));
        x.checkpoint();
        due.is("step() that stops", -9, x.step());
        due.is("size(5)", 1, x.size(5));
    }

    private void constants() {
        due.part("constants");
        due.is("DOWN", -9, TailedStore.DOWN);
        due.is("BAD", -1, TailedStore.BAD);
        due.is("FULL", -2, TailedStore.FULL);
        due.is("REFUSED", -3, TailedStore.REFUSED);
    }

    private void newObject() {
        due.part("1 new object");
        TailedStore x = new TailedStore(4, 2);
        addresses(x, 0, 0, 0, 0, 0);
        int[] sizes = {2, 1, 0, 0, 0, 0, 0};
        for (int i = 0; i < sizes.length; i++) {
            due.is("size(" + i + ")", sizes[i], x.size(i));
        }
        due.is("bucket(0)", -1, x.bucket(0));
        due.is("bucket(1)", -1, x.bucket(1));
        due.is("value()", 0, x.value());
        for (int key = 0; key < 32; key++) {
            due.is("read(" + key + ")", 0, x.read(key));
            due.is("delete(" + key + ")", 0, x.delete(key));
        }
        due.is("step()", -3, x.step());
        due.is("compact()", -3, x.compact());
        due.is("recover()", -3, x.recover());
        addresses(x, 0, 0, 0, 0, 0);
    }

    private void pagesAreClamped() {
        due.part("1 pages");
        int[][] memories = {{MIN, 3}, {-1, 3}, {0, 3}, {2, 3}, {3, 3}, {4, 4}, {7, 7}, {8, 8}, {9, 8}, {MAX, 8}};
        for (int[] m : memories) {
            TailedStore x = new TailedStore(m[0], 1);
            fill(x, 0, 4 * m[1]);
            due.is("HEAD of memory " + m[0] + " before", 0, x.address(1));
            due.is("blocks of memory " + m[0] + " before", 0, x.size(2));
            fill(x, 4 * m[1], 1);
            due.is("HEAD of memory " + m[0], 4, x.address(1));
            due.is("FLUSHED of memory " + m[0], 4 * m[1], x.address(2));
            due.is("blocks of memory " + m[0], m[1], x.size(2));
        }
        int[][] mutables = {{8, MIN, 1}, {8, 0, 1}, {8, 1, 1}, {8, 2, 2}, {8, 6, 6}, {8, 7, 6}, {8, MAX, 6},
            {9, 7, 6}, {MAX, MAX, 6}, {3, 1, 1}, {3, 2, 1}, {2, 9, 1}, {MIN, MAX, 1}, {5, 3, 3}, {5, 4, 3}};
        for (int[] m : mutables) {
            TailedStore x = new TailedStore(m[0], m[1]);
            fill(x, 0, 41);
            due.is("FIXED of " + m[0] + ", " + m[1], 40 - 4 * (m[2] - 1), x.address(3));
        }
    }

    private void put() {
        due.part("2 put");
        TailedStore x = new TailedStore(3, 1);
        due.is("put(0, MAX)", 2, x.put(0, MAX));
        due.is("put(31, MIN)", 2, x.put(31, MIN));
        due.is("put(2, -1)", 2, x.put(2, -1));
        record(x, 0, 0, MAX, -1, 1, 0);
        record(x, 1, 31, MIN, -1, 1, 0);
        record(x, 2, 2, -1, 0, 1, 0);
        due.is("put(0, 5) in place", 1, x.put(0, 5));
        record(x, 0, 0, 5, -1, 1, 0);
        due.is("put(2, 6)", 1, x.put(2, 6));
        addresses(x, 0, 0, 0, 0, 3);
        int[] bad = {-1, 32, MIN, MAX};
        for (int key : bad) {
            due.is("put(" + key + ", 1)", -1, x.put(key, 1));
        }
        addresses(x, 0, 0, 0, 0, 3);
        stop(x);
        due.is("put(0, 1) when stopped", -9, x.put(0, 1));
        due.is("put(32, 1) when stopped", -9, x.put(32, 1));
    }

    private void putWhereVersionsOrFixedHinder() {
        due.part("2 put, in place or not");
        TailedStore x = new TailedStore(4, 2);
        fill(x, 0, 8);
        due.is("FIXED before TAIL's page is begun", 0, x.address(3));
        due.is("put(0, 1) on the oldest", 1, x.put(0, 1));
        due.is("put(8, 8)", 2, x.put(8, 8));
        due.is("FIXED", 4, x.address(3));
        due.is("put(4, 1) at FIXED", 1, x.put(4, 1));
        due.is("put(3, 1) below FIXED", 2, x.put(3, 1));
        due.is("checkpoint()", 1, x.checkpoint());
        due.is("put(8, 2) of an older version", 2, x.put(8, 2));
        due.is("put(8, 3)", 1, x.put(8, 3));
        record(x, 8, 8, 8, 6, 1, 0);
        record(x, 10, 8, 3, 8, 2, 0);
    }

    private void putWhenFull() {
        due.part("2 put, full");
        TailedStore x = new TailedStore(3, 1);
        fill(x, 0, 400);
        addresses(x, 0, 388, 396, 396, 400);
        int blocks = x.size(2);
        due.is("put in place", 1, x.put(399 % 31, 1));
        int reads = x.size(3);
        due.is("put(31, 1)", -2, x.put(31, 1));
        due.is("reads of the whole chain are counted", true, x.size(3) > reads + 100);
        due.is("add(31, 1)", -2, x.add(31, 1));
        reads = x.size(3);
        due.is("delete(31)", 0, x.delete(31));
        due.is("reads of delete", true, x.size(3) > reads + 100);
        due.is("put(5, 1)", -2, x.put(5, 1));
        due.is("delete(5)", -2, x.delete(5));
        due.is("add(5, 1)", -2, x.add(5, 1));
        due.is("put(32, 1)", -1, x.put(32, 1));
        due.is("delete in place", 1, x.delete(399 % 31));
        due.is("add in place", 1, x.add(399 % 31, 1));
        addresses(x, 0, 388, 396, 396, 400);
        due.is("blocks", blocks, x.size(2));
        due.is("keys", 31, x.size(6));
    }

    private void add() {
        due.part("3 add");
        TailedStore x = new TailedStore(3, 1);
        due.is("add(7, 5) of none", 2, x.add(7, 5));
        due.is("add(7, 6)", 1, x.add(7, 6));
        found(x, 7, 1, 11);
        due.is("put(7, MAX)", 1, x.put(7, MAX));
        due.is("add(7, 2) wraps", 1, x.add(7, 2));
        found(x, 7, 1, MIN + 1);
        due.is("delete(7)", 1, x.delete(7));
        due.is("add(7, -3) of a stone", 1, x.add(7, -3));
        record(x, 0, 7, -3, -1, 1, 0);
        fill(x, 0, 4);
        due.is("add(7, 1) below FIXED", 2, x.add(7, 1));
        record(x, 5, 7, -2, 3 + 1, 1, 0);
        record(x, 0, 7, -3, -1, 1, 0);
        due.is("add(-1, 1)", -1, x.add(-1, 1));
        due.is("add(32, 1)", -1, x.add(32, 1));
        stop(x);
        due.is("add(7, 1) when stopped", -9, x.add(7, 1));
        due.is("add(-1, 1) when stopped", -9, x.add(-1, 1));
    }

    private void delete() {
        due.part("4 delete");
        TailedStore x = new TailedStore(3, 1);
        due.is("delete(3) of none", 0, x.delete(3));
        due.is("put(3, 9)", 2, x.put(3, 9));
        due.is("delete(3)", 1, x.delete(3));
        record(x, 0, 3, 0, -1, 1, 1);
        due.is("delete(3) again", 0, x.delete(3));
        due.is("read(3)", 0, x.read(3));
        due.is("put(3, 8) on a stone", 1, x.put(3, 8));
        record(x, 0, 3, 8, -1, 1, 0);
        due.is("checkpoint()", 1, x.checkpoint());
        due.is("delete(3) of an older version", 2, x.delete(3));
        record(x, 1, 3, 0, 0, 2, 1);
        record(x, 0, 3, 8, -1, 1, 0);
        due.is("size(6)", 0, x.size(6));
        due.is("TAIL", 2, x.address(4));
        due.is("delete(32)", -1, x.delete(32));
        due.is("delete(-1)", -1, x.delete(-1));
        due.is("fuse(1)", true, x.fuse(1));
        due.is("step()", -9, x.step());
        due.is("delete(3) when stopped", -9, x.delete(3));
        due.is("delete(32) when stopped", -9, x.delete(32));
    }

    private void read() {
        due.part("5 read");
        TailedStore x = new TailedStore(3, 1);
        fill(x, 0, 13);
        addresses(x, 0, 4, 12, 12, 13);
        found(x, 12, 1, 12);
        found(x, 11, 2, 11);
        found(x, 4, 2, 4);
        found(x, 3, 3, 3);
        found(x, 0, 3, 0);
        due.is("read(13)", 0, x.read(13));
        due.is("read(-1)", -1, x.read(-1));
        due.is("read(32)", -1, x.read(32));
        due.is("delete(3)", 2, x.delete(3));
        due.is("read(3)", 0, x.read(3));
        stop(x);
        due.is("read(12) when stopped", -9, x.read(12));
        due.is("read(32) when stopped", -9, x.read(32));
    }

    private void readsAreCounted() {
        due.part("5 reads of the disk");
        TailedStore x = new TailedStore(3, 1);
        fill(x, 0, 13);
        due.is("size(3)", 0, x.size(3));
        due.is("read(4)", 2, x.read(4));
        due.is("size(3) in memory", 0, x.size(3));
        due.is("read(2)", 3, x.read(2));
        due.is("size(3) of one", 1, x.size(3));
        due.is("read(0)", 3, x.read(0));
        due.is("size(3) of two", 3, x.size(3));
        due.is("read(14) of none", 0, x.read(14));
        due.is("size(3) of the chain", 5, x.size(3));
        due.is("delete(15) of none", 0, x.delete(15));
        due.is("size(3) of delete", 7, x.size(3));
        due.is("add(1, 1)", 2, x.add(1, 1));
        due.is("size(3) of add", 9, x.size(3));
        due.is("put(3, 1)", 2, x.put(3, 1));
        due.is("size(3) of put", 10, x.size(3));
        due.is("size(6) reads none", 13, x.size(6));
        due.is("entry(0, 1) reads none", 0, x.entry(0, 1));
        due.is("read(32)", -1, x.read(32));
        due.is("size(3)", 10, x.size(3));
    }

    private void value() {
        due.part("6 value");
        TailedStore x = new TailedStore(3, 1);
        x.put(1, 10);
        due.is("value() before a read", 0, x.value());
        found(x, 1, 1, 10);
        due.is("read(2)", 0, x.read(2));
        due.is("value() after none", 10, x.value());
        due.is("read(32)", -1, x.read(32));
        due.is("value() after BAD", 10, x.value());
        x.put(1, 11);
        x.add(1, 1);
        due.is("value() after put", 10, x.value());
        stop(x);
        due.is("value() when stopped", 10, x.value());
        due.is("read(1) when stopped", -9, x.read(1));
        due.is("value() after DOWN", 10, x.value());
        due.is("recover()", 0, x.recover());
        due.is("value() after recovery", 10, x.value());
    }

    private void checkpoint() {
        due.part("7 checkpoint");
        TailedStore x = new TailedStore(3, 1);
        due.is("checkpoint()", 1, x.checkpoint());
        due.is("size(1)", 2, x.size(1));
        due.is("size(2)", 0, x.size(2));
        for (int kind = 1; kind <= 3; kind++) {
            due.is("checkpoint() under way", -3, x.checkpoint());
            due.is("size(4)", kind, x.size(4));
            due.is("step()", kind, x.step());
        }
        due.is("size(1)", 2, x.size(1));
        due.is("checkpoint()", 2, x.checkpoint());
        due.is("fuse(1)", true, x.fuse(1));
        due.is("step()", -9, x.step());
        due.is("checkpoint() when stopped", -9, x.checkpoint());
        due.is("recover()", 1, x.recover());
        due.is("checkpoint() after recovery", 3, x.checkpoint());
        due.is("size(1)", 4, x.size(1));
    }

    private void step() {
        due.part("8 step");
        TailedStore x = new TailedStore(4, 2);
        due.is("step()", -3, x.step());
        fill(x, 0, 6);
        due.is("checkpoint()", 1, x.checkpoint());
        due.is("step()", 1, x.step());
        due.is("size(2)", 1, x.size(2));
        addresses(x, 0, 0, 0, 0, 6);
        due.is("put(20, 1)", 2, x.put(20, 1));
        due.is("size(4)", 2, x.size(4));
        due.is("step()", 2, x.step());
        addresses(x, 0, 0, 4, 7, 7);
        due.is("put(20, 2) below FIXED", 2, x.put(20, 2));
        due.is("size(4)", 2, x.size(4));
        due.is("step()", 2, x.step());
        addresses(x, 0, 0, 7, 7, 8);
        due.is("size(2)", 3, x.size(2));
        due.is("size(4)", 3, x.size(4));
        due.is("step()", 3, x.step());
        due.is("size(2)", 4, x.size(2));
        due.is("size(4)", 0, x.size(4));
        due.is("step()", -3, x.step());
        addresses(x, 0, 0, 7, 7, 8);
    }

    private void stepFixesForGood() {
        due.part("8 step, FIXED never falls");
        TailedStore x = new TailedStore(8, 6);
        fill(x, 0, 22);
        settle(x, 1);
        addresses(x, 0, 0, 22, 22, 22);
        fill(x, 22, 3);
        // The page five pages before 24 begins at 4.
        addresses(x, 0, 0, 22, 22, 25);
        due.is("put(22, 1) at FIXED", 1, x.put(22, 1));
        due.is("put(21, 1) below FIXED", 2, x.put(21, 1));
    }

    private void stepWithNothingToFlush() {
        due.part("8 step, nothing to flush");
        TailedStore x = new TailedStore(3, 1);
        settle(x, 1);
        due.is("size(2) of an empty store", 2, x.size(2));
        fill(x, 0, 5);
        settle(x, 2);
        due.is("size(2)", 6, x.size(2));
        addresses(x, 0, 0, 5, 5, 5);
        due.is("checkpoint()", 3, x.checkpoint());
        due.is("step()", 1, x.step());
        due.is("size(4)", 2, x.size(4));
        due.is("step()", 2, x.step());
        due.is("size(2)", 7, x.size(2));
        due.is("size(4)", 3, x.size(4));
        due.is("step()", 3, x.step());
        due.is("size(2)", 8, x.size(2));
        stop(x);
        due.is("recover()", 3, x.recover());
        addresses(x, 0, 5, 5, 5, 5);
    }

    private void stepBehindAnotherFlush() {
        due.part("8 step, behind another flush");
        TailedStore x = new TailedStore(3, 1);
        fill(x, 0, 12);
        due.is("checkpoint()", 1, x.checkpoint());
        due.is("step()", 1, x.step());
        due.is("step()", 2, x.step());
        addresses(x, 0, 0, 4, 12, 12);
        fill(x, 12, 1);
        addresses(x, 0, 4, 4, 12, 13);
        due.is("size(2) without a flush", 2, x.size(2));
        fill(x, 13, 4);
        addresses(x, 0, 8, 16, 16, 17);
        due.is("size(2) with a flush", 5, x.size(2));
        due.is("size(4)", 2, x.size(4));
        due.is("step()", 2, x.step());
        due.is("size(2)", 5, x.size(2));
        addresses(x, 0, 8, 16, 16, 17);
        due.is("size(4)", 3, x.size(4));
        due.is("step()", 3, x.step());
        stop(x);
        due.is("recover()", 1, x.recover());
        addresses(x, 0, 12, 12, 12, 12);
    }

    private void stepStopped() {
        due.part("8 step, stopped");
        int[] settles = {0, 0, 0, 1};
        for (int n = 1; n <= 4; n++) {
            TailedStore x = new TailedStore(3, 1);
            fill(x, 0, 5);
            due.is("checkpoint()", 1, x.checkpoint());
            due.is("fuse(" + n + ")", true, x.fuse(n));
            int[] kinds = {1, 2, 2, 3};
            for (int i = 0; i < n - 1; i++) {
                due.is("step()", kinds[i], x.step());
            }
            due.is("step() that stops", -9, x.step());
            due.is("step() when stopped", -9, x.step());
            due.is("size(2)", n, x.size(2));
            due.is("recover()", settles[n - 1], x.recover());
            due.is("step() after recovery", -3, x.step());
            due.is("size(6)", settles[n - 1] * 5, x.size(6));
        }
    }

    private void imageIsTakenInParts() {
        due.part("8 step, image in parts");
        TailedStore x = new TailedStore(3, 1);
        for (int i = 3; i <= 6; i++) {
            due.is("grow()", i, x.grow());
        }
        // Keys 7 and 0 have hashes 0 and 5: buckets 0 and 5 of 6.
        due.is("put(7, 1)", 2, x.put(7, 1));
        due.is("put(0, 1)", 2, x.put(0, 1));
        due.is("bucket(0)", 0, x.bucket(0));
        due.is("bucket(5)", 1, x.bucket(5));
        due.is("checkpoint()", 1, x.checkpoint());
        due.is("step()", 1, x.step());
        due.is("size(4)", 1, x.size(4));
        due.is("put(7, 2)", 2, x.put(7, 2));
        due.is("put(0, 2)", 2, x.put(0, 2));
        due.is("step()", 1, x.step());
        due.is("size(4)", 2, x.size(4));
        due.is("step()", 2, x.step());
        due.is("step()", 3, x.step());
        stop(x);
        due.is("reads before", 0, x.size(3));
        due.is("recover()", 1, x.recover());
        due.is("only bucket 5 lay behind the cut", 1, x.size(3));
        due.is("bucket(0)", 0, x.bucket(0));
        due.is("bucket(5)", 1, x.bucket(5));
        found(x, 7, 3, 1);
        found(x, 0, 3, 1);
        due.is("TAIL", 4, x.address(4));
    }

    private void grow() {
        due.part("9 grow");
        TailedStore x = new TailedStore(8, 6);
        for (int key = 0; key < 23; key++) {
            due.is("put", 2, x.put(key, 100 + key));
        }
        int bucket0 = x.bucket(0);
        due.is("grow()", 3, x.grow());
        due.is("bucket(2) is the twin", bucket0, x.bucket(2));
        due.is("bucket(0) stays", bucket0, x.bucket(0));
        // Key 25 has hash 10: 10 % 2 = 0 is below SPLIT, so its bucket is 10 % 4 = 2.
        due.is("put(25, 1)", 2, x.put(25, 1));
        due.is("hash 10 hangs on bucket 2", 23, x.bucket(2));
        due.is("bucket(0) stays", bucket0, x.bucket(0));
        for (int n = 4; n <= 16; n++) {
            due.is("grow()", n, x.grow());
            due.is("size(0)", n, x.size(0));
            for (int key = n % 2; key < 23; key += 2) {
                found(x, key, 1, 100 + key);
            }
        }
        due.is("grow() of 16", -3, x.grow());
        due.is("size(0)", 16, x.size(0));
        due.is("checkpoint()", 1, x.checkpoint());
        due.is("grow()", -3, x.grow());
        due.is("fuse(1)", true, x.fuse(1));
        due.is("step()", -9, x.step());
        due.is("grow() when stopped", -9, x.grow());
        due.is("recover()", 0, x.recover());
        due.is("size(0) as at first", 2, x.size(0));
        due.is("grow() after recovery", 3, x.grow());
        due.is("bucket(2)", -1, x.bucket(2));
    }

    private void growIsSaved() {
        due.part("9 grow and checkpoints");
        TailedStore x = new TailedStore(3, 1);
        due.is("grow()", 3, x.grow());
        fill(x, 0, 6);
        due.is("checkpoint()", 1, x.checkpoint());
        due.is("grow() under way", -3, x.grow());
        due.is("size(0)", 3, x.size(0));
        for (int n = 0; n < 4; n++) {
            x.step();
        }
        due.is("size(4)", 0, x.size(4));
        due.is("grow()", 4, x.grow());
        due.is("grow()", 5, x.grow());
        stop(x);
        due.is("recover()", 1, x.recover());
        due.is("size(0)", 3, x.size(0));
        due.is("bucket(3)", -1, x.bucket(3));
        for (int key = 0; key < 6; key++) {
            found(x, key, 3, key);
        }
        due.is("grow() splits bucket 1", 4, x.grow());
        due.is("bucket(3)", x.bucket(1), x.bucket(3));
    }

    private void compact() {
        due.part("10 compact");
        TailedStore x = new TailedStore(3, 1);
        due.is("compact() of nothing", -3, x.compact());
        x.put(0, 10);
        x.put(1, 11);
        x.put(2, 12);
        x.put(3, 13);
        fill(x, 4, 2);
        due.is("put(1, 21)", 2, x.put(1, 21));
        due.is("delete(2)", 2, x.delete(2));
        fill(x, 6, 4);
        due.is("compact() when all is in memory", -3, x.compact());
        fill(x, 10, 1);
        addresses(x, 0, 4, 12, 12, 13);
        int reads = x.size(3);
        due.is("compact() of 0 .. 3", 2, x.compact());
        due.is("reads are the page's", reads + 4, x.size(3));
        addresses(x, 4, 4, 12, 12, 15);
        record(x, 13, 0, 10, 12, 1, 0);
        record(x, 14, 3, 13, 11, 1, 0);
        record(x, 0, 0, 0, 0, 0, 0);
        due.is("entry(3, 1) below BEGIN", 0, x.entry(3, 1));
        due.is("compact() of a page in memory", -3, x.compact());
        found(x, 0, 1, 10);
        found(x, 1, 2, 21);
        due.is("read(2)", 0, x.read(2));
        due.is("keys", 10, x.size(6));
        fill(x, 11, 2);
        addresses(x, 4, 8, 12, 16, 17);
        due.is("compact() of 4 .. 7 without the stone", 3, x.compact());
        addresses(x, 8, 8, 12, 16, 20);
        due.is("delete(2) below BEGIN", 0, x.delete(2));
        stop(x);
        due.is("compact() when stopped", -9, x.compact());
    }

    private void compactBeforeCheckpoint() {
        due.part("10 compact before a checkpoint");
        TailedStore x = new TailedStore(3, 1);
        fill(x, 0, 21);
        due.is("HEAD", 12, x.address(1));
        due.is("compact()", 4, x.compact());
        due.is("compact()", 4, x.compact());
        addresses(x, 8, 20, 24, 28, 29);
        int reads = x.size(3);
        due.is("read(31) of none", 0, x.read(31));
        // Of bucket 0, 9, 11, .. 19 are from BEGIN to below HEAD; 1 .. 7 are not looked at.
        due.is("the chain ends at BEGIN", reads + 6, x.size(3));
        settle(x, 1);
        due.is("compact()", 4, x.compact());
        due.is("BEGIN", 12, x.address(0));
        stop(x);
        due.is("recover()", 1, x.recover());
        addresses(x, 8, 29, 29, 29, 29);
        due.is("entry(7, 1)", 0, x.entry(7, 1));
        due.is("entry(8, 1)", 8, x.entry(8, 1));
        due.is("keys", 21, x.size(6));
    }

    private void compactUnderCheckpoint() {
        due.part("10 compact under a checkpoint");
        TailedStore x = new TailedStore(3, 1);
        fill(x, 0, 13);
        due.is("checkpoint()", 1, x.checkpoint());
        due.is("compact()", 4, x.compact());
        addresses(x, 4, 8, 12, 16, 17);
        record(x, 13, 0, 0, 12, 2, 0);
        for (int kind = 1; kind <= 3; kind++) {
            for (int n = 0; n < 20 && x.size(4) == kind; n++) {
                due.is("step()", kind, x.step());
            }
        }
        due.is("put(0, 77)", 2, x.put(0, 77));
        stop(x);
        int reads = x.size(3);
        due.is("recover()", 1, x.recover());
        due.is("reads of recovery: 13 .. 16", reads + 4, x.size(3));
        addresses(x, 0, 17, 17, 17, 17);
        due.is("bucket(0)", 11, x.bucket(0));
        due.is("bucket(1)", 12, x.bucket(1));
        for (int key = 0; key < 13; key++) {
            found(x, key, 3, key);
        }
        due.is("compact() passes by what is reached no more", 4, x.compact());
        due.is("compact()", 4, x.compact());
        due.is("compact()", 4, x.compact());
        due.is("compact() of 12 .. 15", 1, x.compact());
        due.is("compact() of 16 .. 19, the copies of 0 .. 2 among them", 3, x.compact());
    }

    private void compactStopped() {
        due.part("10 compact, stopped");
        TailedStore x = new TailedStore(3, 1);
        fill(x, 0, 14);
        settle(x, 1);
        addresses(x, 0, 4, 14, 14, 14);
        fill(x, 14, 1);
        int reads = x.size(3);
        int blocks = x.size(2);
        due.is("fuse(1)", true, x.fuse(1));
        // 0 is appended at 15; 1 would begin a page, whose opening flushes page 8 .. 11 no more,
        // but HEAD moves to 8 and FLUSHED is 14 already: nothing is written.
        due.is("compact() that writes nothing", 4, x.compact());
        due.is("size(2)", blocks, x.size(2));
        due.is("size(3)", reads + 4, x.size(3));
        addresses(x, 4, 8, 14, 16, 19);
        // 4 is appended at 19; 5 opens 20: HEAD 8 is below 12, FLUSHED 14 is not below 12.
        due.is("compact()", 4, x.compact());
        addresses(x, 8, 12, 14, 20, 23);
        reads = x.size(3);
        // 8 is appended at 23; 9 opens 24: HEAD 12 is below 16, FLUSHED 14 is, too: a flush to 24.
        due.is("compact() that stops", -9, x.compact());
        due.is("size(2)", blocks + 1, x.size(2));
        due.is("reads up to the stop", reads + 2, x.size(3));
        due.is("recover()", 1, x.recover());
        addresses(x, 0, 14, 14, 14, 14);
        due.is("keys", 14, x.size(6));
    }

    private void compactAtTheEnd() {
        due.part("10 compact, full");
        TailedStore x = new TailedStore(3, 1);
        fill(x, 0, 396);
        due.is("compact() at 396", 0, x.compact());
        fill(x, 396, 1);
        due.is("compact() at 397", -2, x.compact());
        addresses(x, 4, 388, 396, 396, 397);
        fill(x, 397, 3);
        due.is("compact() at 400", -2, x.compact());
    }

    private void compactRefusedBeforeFull() {
        due.part("10 compact, refused though full");
        TailedStore x = new TailedStore(8, 1);
        for (int i = 0; i < 368; i++) {
            due.is("put", 2, x.put(i % 25, i));
        }
        due.is("checkpoint()", 1, x.checkpoint());
        for (int n = 0; n < 12 && x.size(4) < 3; n++) {
            x.step();
        }
        due.is("fuse(1)", true, x.fuse(1));
        due.is("step()", -9, x.step());
        due.is("recover()", 1, x.recover());
        for (int page = 0; page < 92; page++) {
            due.is("compact() of page " + page, page < 85 ? 0 : page == 85 ? 1 : 4, x.compact());
        }
        addresses(x, 368, 368, 368, 392, 393);
        fill(x, 400, 7);
        addresses(x, 368, 368, 368, 396, 400);
        due.is("compact()", -3, x.compact());
    }

    private void fuse() {
        due.part("11 fuse");
        TailedStore x = new TailedStore(3, 1);
        int[] bad = {0, -1, 51, MIN, MAX};
        due.is("fuse(50)", true, x.fuse(50));
        due.is("fuse(2) instead", true, x.fuse(2));
        for (int n : bad) {
            due.is("fuse(" + n + ")", false, x.fuse(n));
        }
        fill(x, 0, 12);
        due.is("put in place writes no block", 1, x.put(11, 1));
        due.is("put(12, 12) flushes three blocks", -9, x.put(12, 12));
        due.is("size(2)", 2, x.size(2));
        due.is("fuse(1) when stopped", false, x.fuse(1));
        due.is("recover()", 0, x.recover());
        fill(x, 0, 13);
        due.is("the fuse is gone", 5, x.size(2));
        due.is("fuse(3)", true, x.fuse(3));
        fill(x, 13, 11);
        due.is("the last of its blocks", -9, x.put(24, 24));
        due.is("size(2)", 8, x.size(2));
        fuseOfFifty();
    }

    private void fuseOfFifty() {
        TailedStore x = new TailedStore(3, 1);
        due.is("fuse(50)", true, x.fuse(50));
        int done = 0;
        while (done < 400 && x.size(5) == 0) {
            x.put(done % 31, done);
            done++;
        }
        due.is("size(5)", 1, x.size(5));
        due.is("blocks of fuse(50)", 50, x.size(2));
    }

    private void recover() {
        due.part("12 recover");
        TailedStore x = new TailedStore(3, 1);
        due.is("recover() of a running one", -3, x.recover());
        fill(x, 0, 13);
        due.is("grow()", 3, x.grow());
        due.is("read(0)", 3, x.read(0));
        int reads = x.size(3);
        int blocks = x.size(2);
        stop(x);
        due.is("recover() to nothing", 0, x.recover());
        addresses(x, 0, 0, 0, 0, 0);
        due.is("size(0)", 2, x.size(0));
        due.is("size(1)", 1, x.size(1));
        due.is("size(2)", blocks + 1, x.size(2));
        due.is("size(3)", reads, x.size(3));
        due.is("size(4)", 0, x.size(4));
        due.is("size(6)", 0, x.size(6));
        due.is("bucket(0)", -1, x.bucket(0));
        due.is("recover() again", -3, x.recover());
        fill(x, 0, 5);
        settle(x, 1);
        due.is("put(0, 50)", 2, x.put(0, 50));
        due.is("delete(1)", 2, x.delete(1));
        stop(x);
        due.is("recover()", 1, x.recover());
        due.is("size(1)", 3, x.size(1));
        addresses(x, 0, 5, 5, 5, 5);
        found(x, 0, 3, 0);
        found(x, 1, 3, 1);
        due.is("checkpoint()", 3, x.checkpoint());
    }

    private void recoverTwice() {
        due.part("12 recover twice");
        TailedStore x = new TailedStore(3, 1);
        fill(x, 0, 3);
        due.is("checkpoint()", 1, x.checkpoint());
        due.is("put(0, 5)", 2, x.put(0, 5));
        due.is("put(1, 6)", 2, x.put(1, 6));
        due.is("put(1, 7)", 1, x.put(1, 7));
        for (int kind : new int[] {1, 2, 2, 3}) {
            due.is("step()", kind, x.step());
        }
        int reads = x.size(3);
        for (int time = 1; time <= 3; time++) {
            stop(x);
            due.is("recover()", 1, x.recover());
            due.is("reads of recovery", reads + 2, x.size(3));
            due.is("size(1)", 3, x.size(1));
            addresses(x, 0, 5, 5, 5, 5);
            record(x, 4, 1, 7, 1, 2, 0);
            due.is("bucket(0)", 1, x.bucket(0));
            due.is("bucket(1)", 2, x.bucket(1));
            found(x, 0, 3, 0);
            found(x, 1, 3, 1);
            due.is("put(0, 9)", 2, x.put(0, 9));
            record(x, 5, 0, 9, 2, 3, 0);
            reads = x.size(3);
        }
    }

    private void recoverToTheNewerOfTwo() {
        due.part("12 recover to the newer");
        TailedStore x = new TailedStore(3, 1);
        for (int v = 1; v <= 4; v++) {
            due.is("put(9, " + v + ")", 2, x.put(9, v));
            settle(x, v);
        }
        due.is("put(9, 5)", 2, x.put(9, 5));
        due.is("checkpoint()", 5, x.checkpoint());
        due.is("step()", 1, x.step());
        due.is("step()", 2, x.step());
        due.is("fuse(1)", true, x.fuse(1));
        due.is("META that stops", -9, x.step());
        due.is("recover()", 5, x.recover());
        found(x, 9, 3, 5);
        due.is("size(1)", 7, x.size(1));
        due.is("put(9, 6)", 2, x.put(9, 6));
        due.is("checkpoint()", 7, x.checkpoint());
        due.is("step()", 1, x.step());
        due.is("fuse(1)", true, x.fuse(1));
        due.is("FLUSHING that stops", -9, x.step());
        due.is("recover()", 5, x.recover());
        found(x, 9, 3, 5);
    }

    private void recoverInMidPage() {
        due.part("12 recover in mid-page");
        TailedStore x = new TailedStore(3, 1);
        fill(x, 0, 6);
        settle(x, 1);
        stop(x);
        due.is("recover()", 1, x.recover());
        int blocks = x.size(2);
        fill(x, 6, 10);
        addresses(x, 0, 6, 6, 12, 16);
        due.is("size(2)", blocks, x.size(2));
        due.is("compact() of 0 .. 3", 4, x.compact());
        // The first of them opened 16: HEAD 6 is below 8, FLUSHED 6 is, too: pages 4, 8 and 12.
        due.is("size(2)", blocks + 3, x.size(2));
        addresses(x, 4, 8, 16, 16, 20);
        due.is("compact() of 4 .. 7", 4, x.compact());
        due.is("keys", 16, x.size(6));
    }

    private void address() {
        due.part("13 address");
        TailedStore x = new TailedStore(4, 2);
        fill(x, 0, 17);
        addresses(x, 0, 4, 12, 12, 17);
        fill(x, 17, 4);
        // HEAD 4 is below 8, but its page is flushed already.
        addresses(x, 0, 8, 12, 16, 21);
        due.is("size(2)", 3, x.size(2));
        fill(x, 21, 4);
        addresses(x, 0, 12, 12, 20, 25);
        fill(x, 25, 4);
        addresses(x, 0, 16, 24, 24, 29);
        due.is("size(2)", 6, x.size(2));
        int[] bad = {-1, 5, MIN, MAX};
        for (int what : bad) {
            due.is("address(" + what + ")", -1, x.address(what));
        }
        stop(x);
        for (int what = -1; what <= 5; what++) {
            due.is("address(" + what + ") when stopped", -9, x.address(what));
        }
    }

    private void entry() {
        due.part("14 entry");
        TailedStore x = new TailedStore(3, 1);
        record(x, 0, 0, 0, 0, 0, 0);
        fill(x, 0, 13);
        due.is("delete(2)", 2, x.delete(2));
        record(x, 2, 2, 2, 0, 1, 0);
        record(x, 13, 2, 0, 12, 1, 1);
        int[] nowhere = {-1, 14, 399, 400, MIN, MAX};
        for (int a : nowhere) {
            record(x, a, 0, 0, 0, 0, 0);
        }
        int[] bad = {-1, 5, MIN, MAX};
        for (int what : bad) {
            due.is("entry(12, " + what + ")", 0, x.entry(12, what));
        }
        stop(x);
        record(x, 2, 0, 0, 0, 0, 0);
        record(x, 13, 0, 0, 0, 0, 0);
    }

    private void bucket() {
        due.part("15 bucket");
        TailedStore x = new TailedStore(3, 1);
        // The hash of key 0 is 5, that of key 1 is 18.
        due.is("put(0, 1)", 2, x.put(0, 1));
        due.is("bucket(0)", -1, x.bucket(0));
        due.is("bucket(1)", 0, x.bucket(1));
        due.is("put(1, 1)", 2, x.put(1, 1));
        due.is("bucket(0)", 1, x.bucket(0));
        int[] bad = {-1, 2, 15, 16, MIN, MAX};
        for (int i : bad) {
            due.is("bucket(" + i + ")", -1, x.bucket(i));
        }
        stop(x);
        for (int i = -1; i <= 2; i++) {
            due.is("bucket(" + i + ") when stopped", -9, x.bucket(i));
        }
    }

    private void size() {
        due.part("16 size");
        TailedStore x = new TailedStore(3, 1);
        fill(x, 0, 13);
        due.is("grow()", 3, x.grow());
        due.is("read(0)", 3, x.read(0));
        due.is("delete(5)", 2, x.delete(5));
        due.is("checkpoint()", 1, x.checkpoint());
        int[] running = {3, 2, 3, 2, 1, 0, 12};
        int[] stopped = {0, 0, 4, 2, 0, 1, 0};
        for (int i = 0; i < running.length; i++) {
            due.is("size(" + i + ")", running[i], x.size(i));
        }
        int[] bad = {-1, 7, MIN, MAX};
        for (int what : bad) {
            due.is("size(" + what + ")", -1, x.size(what));
        }
        due.is("fuse(1)", true, x.fuse(1));
        due.is("step()", -9, x.step());
        for (int i = 0; i < stopped.length; i++) {
            due.is("size(" + i + ") when stopped", stopped[i], x.size(i));
        }
        for (int what : bad) {
            due.is("size(" + what + ") when stopped", -1, x.size(what));
        }
    }
}
