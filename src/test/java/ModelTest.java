import java.util.HashMap;
import java.util.Map;
import java.util.Random;
import java.util.TreeMap;

/**
 * Long runs of calls, the same ones each time, on the store and on the model; and beside both a
 * plain map, which is what the store has to hold, also after a recovery. What an object answers
 * behind its 512th call is free, so each look into a run is taken on a new object that has been
 * given the calls up to there.
 */
public final class ModelTest {
    private static final int RUNS = 500;
    private static final int CALLS = 512;
    private static final int KEYS = 32;
    private static final int CALLS_PER_LOOK = 12;
    private static final String[] NAMES =
        {"put", "add", "delete", "read", "checkpoint", "step", "grow", "compact", "fuse", "recover"};
    // How often each call comes, for several ways of use.
    private static final int[][] MIXES = {
        {30, 10, 8, 15, 4, 12, 3, 6, 2, 10},
        {60, 10, 3, 5, 1, 3, 1, 3, 1, 10},
        {90, 5, 1, 2, 1, 3, 1, 0, 0, 0},
        {70, 5, 2, 3, 2, 6, 0, 25, 0, 0},
        {25, 5, 5, 5, 10, 60, 2, 8, 6, 20},
        {40, 5, 5, 5, 5, 10, 1, 30, 5, 20},
        {40, 10, 10, 5, 2, 6, 0, 0, 0, 0},
    };

    private final Due due = new Due();
    private final Map<String, Integer> seen = new TreeMap<>();

    public static void main(String[] args) {
        ModelTest test = new ModelTest();
        for (int run = 0; run < RUNS && !test.due.failed(); run++) {
            test.run(run);
        }
        test.checkThatAllWasSeen();
        test.due.finish();
    }

    private void run(int number) {
        Random random = new Random(number);
        int memory = random.nextInt(11);
        int mutable = random.nextInt(9) - 1;
        due.part("run " + number + " of (" + memory + ", " + mutable + ")");
        int[][] calls = calls(random, MIXES[number % MIXES.length]);
        TailedStore x = new TailedStore(memory, mutable);
        DocModel m = new DocModel(memory, mutable);
        Map<Integer, Integer> now = new HashMap<>();
        Map<Integer, Integer> begun = new HashMap<>();
        Map<Integer, Integer> whole = new HashMap<>();
        for (int n = 0; n < CALLS && !due.failed(); n++) {
            int call = calls[n][0];
            int nextStep = m.size(4);
            int want = answer(m, calls[n]);
            due.is("call " + n + " " + NAMES[call] + "(" + calls[n][1] + ", " + calls[n][2] + ")",
                want, answer(x, calls[n]));
            note(NAMES[call] + " " + (call == 4 || call == 6 || call == 9 ? Math.min(want, 1) : want));
            if (want == 1 || want == 2) {
                applyTo(now, calls[n]);
            }
            if (call == 4 && want > 0) {
                begun = new HashMap<>(now);
            }
            // A stop in META's step still settles.
            if (call == 5 && nextStep == 3) {
                whole = begun;
            }
            if (call == 9 && want >= 0) {
                now = new HashMap<>(whole);
            }
            if (random.nextInt(CALLS_PER_LOOK) == 0 || call == 9 && want >= 0) {
                look(played(memory, mutable, calls, n), m, now, n, random);
            }
        }
    }

    private static int[][] calls(Random random, int[] mix) {
        int keys = new int[] {3, 8, KEYS, KEYS}[random.nextInt(4)];
        int[][] calls = new int[CALLS][];
        for (int n = 0; n < CALLS; n++) {
            int call = pick(random, mix);
            int key = random.nextInt(100) == 0 ? random.nextInt(100) - 50 : random.nextInt(keys);
            int value = random.nextInt(20) == 0 ? random.nextInt() : random.nextInt(100);
            calls[n] = new int[] {call, key, value};
        }
        return calls;
    }

    private static TailedStore played(int memory, int mutable, int[][] calls, int last) {
        TailedStore x = new TailedStore(memory, mutable);
        for (int n = 0; n <= last; n++) {
            answer(x, calls[n]);
        }
        return x;
    }

    /** Compares the whole state, as far as the calls that the object has left go. */
    private void look(TailedStore x, DocModel m, Map<Integer, Integer> now, int n, Random random) {
        int left = CALLS - n - 1;
        if (left >= 35) {
            compare(n, x, m);
            left -= 35;
        }
        boolean reads = m.size(5) == 0 && left >= 2 * KEYS;
        if (reads) {
            due.is("call " + n + " keys of the map", now.size(), m.size(6));
            left -= 2 * KEYS;
        }
        for (; left >= 7; left -= 7) {
            compareEntry(n, x, m, random.nextInt(Math.max(m.address(4), 0) + 2) - 1);
        }
        // At last, since these are counted as reads.
        for (int key = 0; reads && key < KEYS; key++) {
            Integer value = now.get(key);
            due.is("call " + n + " read(" + key + ") finds a value", value != null, x.read(key) > 0);
            if (value != null) {
                due.is("call " + n + " value() of " + key, value, x.value());
            }
        }
    }

    private static int pick(Random random, int[] mix) {
        int sum = 0;
        for (int part : mix) {
            sum += part;
        }
        int left = random.nextInt(sum);
        int call = 0;
        while (left >= mix[call]) {
            left -= mix[call++];
        }
        return call;
    }

    private static int answer(TailedStore x, int[] call) {
        int key = call[1];
        int value = call[2];
        return switch (call[0]) {
            case 0 -> x.put(key, value);
            case 1 -> x.add(key, value);
            case 2 -> x.delete(key);
            case 3 -> x.read(key);
            case 4 -> x.checkpoint();
            case 5 -> x.step();
            case 6 -> x.grow();
            case 7 -> x.compact();
            case 8 -> x.fuse(value % 10) ? 1 : 0;
            default -> x.recover();
        };
    }

    private static int answer(DocModel x, int[] call) {
        int key = call[1];
        int value = call[2];
        return switch (call[0]) {
            case 0 -> x.put(key, value);
            case 1 -> x.add(key, value);
            case 2 -> x.delete(key);
            case 3 -> x.read(key);
            case 4 -> x.checkpoint();
            case 5 -> x.step();
            case 6 -> x.grow();
            case 7 -> x.compact();
            case 8 -> x.fuse(value % 10) ? 1 : 0;
            default -> x.recover();
        };
    }

    private static void applyTo(Map<Integer, Integer> now, int[] call) {
        if (call[0] == 0) {
            now.put(call[1], call[2]);
        } else if (call[0] == 1) {
            now.merge(call[1], call[2], (a, b) -> a + b);
        } else if (call[0] == 2) {
            now.remove(call[1]);
        }
    }

    private void compare(int n, TailedStore x, DocModel m) {
        due.is("call " + n + " value()", m.value(), x.value());
        for (int i = -1; i <= 7; i++) {
            due.is("call " + n + " size(" + i + ")", m.size(i), x.size(i));
        }
        int[] addresses = new int[7];
        for (int i = -1; i <= 5; i++) {
            addresses[i + 1] = x.address(i);
            due.is("call " + n + " address(" + i + ")", m.address(i), addresses[i + 1]);
        }
        for (int i = 1; i <= 4; i++) {
            due.is("call " + n + " addresses in order", true, addresses[i] <= addresses[i + 1]);
        }
        for (int i = -1; i <= 16; i++) {
            due.is("call " + n + " bucket(" + i + ")", m.bucket(i), x.bucket(i));
        }
    }

    private void compareEntry(int n, TailedStore x, DocModel m, int a) {
        for (int i = -1; i <= 5; i++) {
            due.is("call " + n + " entry(" + a + ", " + i + ")", m.entry(a, i), x.entry(a, i));
        }
    }

    private void note(String answer) {
        seen.merge(answer, 1, Integer::sum);
    }

    private void checkThatAllWasSeen() {
        due.part("what the runs reach");
        String[] all = {
            "put 1", "put 2", "put -9", "put -1", "put -2", "add 1", "add 2", "add -9", "add -1", "add -2",
            "delete 0", "delete 1", "delete 2", "delete -9", "delete -1", "delete -2",
            "read 0", "read 1", "read 2", "read 3", "read -9", "read -1",
            "checkpoint 1", "checkpoint -9", "checkpoint -3", "step 1", "step 2", "step 3", "step -9", "step -3",
            "grow 1", "grow -9", "grow -3",
            "compact 0", "compact 1", "compact 2", "compact 3", "compact 4", "compact -9", "compact -3", "compact -2",
            "fuse 0", "fuse 1", "recover 0", "recover 1", "recover -3"};
        for (String answer : all) {
            due.is(answer + " was seen", true, seen.containsKey(answer));
        }
    }
}
