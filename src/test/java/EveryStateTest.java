import java.util.Random;

/**
 * Every call with every kind of argument in every kind of state: what stands for the whole face and
 * not for one promise. A stop is asked first, then the range of a number; a call that answers so
 * changes nothing; nothing is thrown; and a store knows nothing of other stores.
 */
public final class EveryStateTest {
    private static final int DOWN = -9;
    private static final int BAD = -1;
    private static final int REFUSED = -3;
    private static final int MIN = Integer.MIN_VALUE;
    private static final int MAX = Integer.MAX_VALUE;
    private static final int[] NUMBERS = {MIN, MIN + 1, -400, -32, -9, -2, -1, 0, 1, 4, 5, 6, 7, 15, 16, 31, 32,
        49, 50, 51, 399, 400, 401, MAX - 1, MAX};
    private static final String[] STATES = {"new", "with records in memory", "with records on the disk",
        "compacted", "with 16 buckets", "full", "before IMAGE", "before FLUSHING", "between two FLUSHING",
        "before META", "settled", "with a fuse", "stopped before a checkpoint was settled", "stopped behind one",
        "recovered to nothing", "recovered to a checkpoint"};
    private static final int CALLS = 512;
    private static final int CALLS_BEYOND = 4000;

    private final Due due = new Due();

    public static void main(String[] args) {
        EveryStateTest t = new EveryStateTest();
        for (int state = 0; state < STATES.length; state++) {
            t.everyCall(state);
            t.wrongCallsChangeNothing(state);
        }
        t.everyObjectCanBeMade();
        t.storesStandApart();
        t.nothingIsThrownBeyond();
        t.due.finish();
    }

    /** A new store, brought into that state by at most 410 calls. */
    private static TailedStore inState(int state) {
        TailedStore x = new TailedStore(3, 1);
        switch (state) {
            case 1 -> fill(x, 7);
            case 2 -> fill(x, 30);
            case 3 -> compactTwice(x);
            case 4 -> growToSixteen(x);
            case 5 -> fill(x, 400);
            case 6 -> begin(x, 0);
            case 7 -> begin(x, 1);
            case 8 -> begin(x, 2);
            case 9 -> begin(x, 3);
            case 10 -> begin(x, 4);
            case 11 -> x.fuse(50);
            case 12 -> stop(x, 0);
            case 13 -> stop(x, 4);
            case 14 -> recover(x, 0);
            case 15 -> recover(x, 4);
            default -> { }
        }
        return x;
    }

    private static void fill(TailedStore x, int n) {
        for (int i = 0; i < n; i++) {
            x.put(i % 31, i);
        }
    }

    private static void compactTwice(TailedStore x) {
        fill(x, 30);
        x.compact();
        x.compact();
    }

    private static void growToSixteen(TailedStore x) {
        fill(x, 20);
        for (int n = 3; n <= 16; n++) {
            x.grow();
        }
    }

    /** Six records make two pages to flush: the steps are IMAGE, FLUSHING twice, META. */
    private static void begin(TailedStore x, int steps) {
        fill(x, 6);
        x.checkpoint();
        for (int n = 0; n < steps; n++) {
            x.step();
        }
    }

    private static void stop(TailedStore x, int steps) {
        begin(x, steps);
        x.read(3);
        x.fuse(1);
        x.checkpoint();
        x.step();
    }

    private static void recover(TailedStore x, int steps) {
        stop(x, steps);
        x.recover();
    }

    private void everyCall(int state) {
        due.part("a store that is " + STATES[state]);
        for (int kind = 0; kind < AnyCall.KINDS; kind++) {
            int arguments = AnyCall.arguments(kind);
            for (int i = 0; i < (arguments > 0 ? NUMBERS.length : 1); i++) {
                for (int j = 0; j < (arguments > 1 ? NUMBERS.length : 1); j++) {
                    checkCall(state, kind, NUMBERS[i], NUMBERS[j]);
                }
            }
        }
    }

    private void checkCall(int state, int kind, int a, int b) {
        TailedStore x = inState(state);
        boolean down = x.size(5) == 1;
        int buckets = x.size(0);
        int answer = AnyCall.answer(x, kind, a, b);
        String call = AnyCall.name(kind, a, b);
        if (down && isDown(kind)) {
            due.is(call, DOWN, answer);
        } else if (isBad(kind, a, buckets)) {
            due.is(call, BAD, answer);
        } else {
            due.is(call + " answers " + answer + ", which is one of its answers", true, mayAnswer(kind, answer, down));
        }
    }

    /** The calls that answer DOWN while the machine has stopped. */
    private static boolean isDown(int kind) {
        return kind <= 3 || kind >= 5 && kind <= 8 || kind == 11 || kind == 13;
    }

    private static boolean isBad(int kind, int a, int buckets) {
        return switch (kind) {
            case 0, 1, 2, 3 -> a < 0 || a > 31;
            case 11 -> a < 0 || a > 4;
            case 13 -> a < 0 || a >= buckets;
            case 14 -> a < 0 || a > 6;
            default -> false;
        };
    }

    private static boolean mayAnswer(int kind, int answer, boolean down) {
        return switch (kind) {
            case 0, 1 -> answer == 1 || answer == 2 || answer == -2;
            case 2 -> answer >= 0 && answer <= 2 || answer == -2;
            case 3 -> answer >= 0 && answer <= 3;
            case 5 -> answer > 0 || answer == REFUSED;
            case 6 -> answer >= 1 && answer <= 3 || answer == REFUSED;
            case 7 -> answer >= 3 && answer <= 16 || answer == REFUSED;
            case 8 -> answer >= 0 && answer <= 4 || answer == REFUSED || answer == -2;
            case 9 -> answer == 0 || answer == 1 && !down;
            case 10 -> down ? answer >= 0 : answer == REFUSED;
            case 11 -> answer >= 0 && answer <= 400;
            case 12 -> answer == 0 || !down;
            case 13 -> answer >= -1 && answer < 400;
            case 14 -> answer >= 0;
            default -> true;
        };
    }

    private void wrongCallsChangeNothing(int state) {
        due.part("a store that is " + STATES[state] + ", behind wrong calls");
        TailedStore x = inState(state);
        TailedStore untouched = inState(state);
        int[] wrong = {-1, 32, 51, MIN, MAX};
        for (int number : wrong) {
            x.put(number, 1);
            x.add(number, 1);
            x.delete(number);
            x.read(number);
            x.fuse(number == 32 ? 0 : number);
            x.address(number);
            x.entry(number == 32 ? 400 : number, 1);
            x.bucket(number);
            x.size(number);
        }
        if (x.size(5) == 0) {
            x.recover();
        } else {
            callWhatIsDown(x);
        }
        compare(untouched, x);
    }

    private static void callWhatIsDown(TailedStore x) {
        x.put(1, 1);
        x.add(1, 1);
        x.delete(1);
        x.read(1);
        x.checkpoint();
        x.step();
        x.grow();
        x.compact();
        x.fuse(1);
    }

    /** What both show, as they are and, if they have stopped, recovered; a last step shows the fuse. */
    private void compare(TailedStore want, TailedStore got) {
        compareWhatIsSeen(want, got);
        due.is("recover()", want.recover(), got.recover());
        compareWhatIsSeen(want, got);
        due.is("checkpoint()", want.checkpoint(), got.checkpoint());
        due.is("step()", want.step(), got.step());
    }

    private void compareWhatIsSeen(TailedStore want, TailedStore got) {
        due.is("value()", want.value(), got.value());
        for (int i = 0; i <= 6; i++) {
            due.is("size(" + i + ")", want.size(i), got.size(i));
        }
        for (int i = 0; i <= 4; i++) {
            due.is("address(" + i + ")", want.address(i), got.address(i));
            due.is("entry(5, " + i + ")", want.entry(5, i), got.entry(5, i));
        }
        due.is("bucket(0)", want.bucket(0), got.bucket(0));
        due.is("bucket(1)", want.bucket(1), got.bucket(1));
    }

    private void everyObjectCanBeMade() {
        due.part("a store of any pages");
        for (int memory : NUMBERS) {
            for (int mutable : NUMBERS) {
                TailedStore x = new TailedStore(memory, mutable);
                due.is("put(1, 1) of (" + memory + ", " + mutable + ")", 2, x.put(1, 1));
            }
        }
    }

    private void storesStandApart() {
        due.part("the same calls on two stores, with a third one between");
        for (int seed = 0; seed < 20; seed++) {
            Random random = new Random(seed);
            TailedStore x = new TailedStore(3, 1);
            TailedStore y = new TailedStore(3, 1);
            TailedStore between = new TailedStore(8, 6);
            for (int n = 0; n < CALLS; n++) {
                int kind = AnyCall.kind(random);
                int a = random.nextInt(33);
                int b = random.nextInt(6);
                int answer = AnyCall.answer(x, kind, a, b);
                AnyCall.answer(between, AnyCall.kind(random), random.nextInt(33), random.nextInt(6));
                due.is(AnyCall.name(kind, a, b) + " the second time", answer, AnyCall.answer(y, kind, a, b));
            }
        }
    }

    /** What these calls answer is free, but they return. */
    private void nothingIsThrownBeyond() {
        due.part("calls beyond the " + CALLS + "th");
        for (int seed = 0; seed < 50; seed++) {
            Random random = new Random(seed);
            TailedStore x = new TailedStore(random.nextInt(12), random.nextInt(8));
            int returned = 0;
            for (int n = 0; n < CALLS_BEYOND; n++) {
                boolean wild = random.nextInt(10) == 0;
                int a = wild ? NUMBERS[random.nextInt(NUMBERS.length)] : random.nextInt(32);
                int kind = AnyCall.kind(random);
                // Every other store has no fuse, so that its log comes to its end.
                AnyCall.answer(x, kind == 9 && seed % 2 == 0 ? 0 : kind, a, random.nextInt(6));
                returned++;
            }
            due.is("calls that returned", CALLS_BEYOND, returned);
        }
    }
}
