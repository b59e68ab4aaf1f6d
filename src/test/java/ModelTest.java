import java.util.HashMap;
import java.util.Map;
import java.util.Random;
import java.util.TreeMap;

/**
 * Long runs of calls, the same ones each time, on the store and on the model; and beside both a
 * plain map, which is what the store has to hold, also after a recovery.
 */
public final class ModelTest {
    private static final int RUNS = 350;
    private static final int CALLS = 512;
    private static final String[] NAMES =
        {"put", "add", "delete", "read", "checkpoint", "step", "grow", "compact", "fuse", "recover"};
    // How often each call comes, for several ways of use.
    private static final int[][] MIXES = {
        {30, 10, 8, 15, 4, 12, 3, 6, 2, 10},
        {60, 10, 3, 5, 1, 3, 1, 3, 1, 10},
        {90, 5, 1, 2, 1, 3, 1, 0, 0, 0},
        {70, 5, 2, 3, 2, 6, 0, 25, 0, 0},
        {25, 5, 5, 5, 10, 60, 2, 8, 6, 20},
        {40, 5, 5, 5, 5, 10, 1, 30, 5, 20},
        {40, 10, 10, 5, 2, 6, 0, 0, 0, 0},
    };

    private final Due due = new Due();
    private final Map<String, Integer> seen = new TreeMap<>();

    public static void main(String[] args) {
        ModelTest test = new ModelTest();
        for (int run = 0; run < RUNS && !test.due.failed(); run++) {
            test.run(run);
        }
        test.checkThatAllWasSeen();
        test.due.finish();
    }

    private void run(int number) {
        Random random = new Random(number);
        int memory = random.nextInt(11);
        int mutable = random.nextInt(9) - 1;
        due.part("run " + number + " of (" + memory + ", " + mutable + ")");
        TailedStore x = new TailedStore(memory, mutable);
        DocModel m = new DocModel(memory, mutable);
        int[] mix = MIXES[number % MIXES.length];
        int keys = new int[] {3, 8, 32, 32}[random.nextInt(4)];
        Map<Integer, Integer> now = new HashMap<>();
        Map<Integer, Integer> begun = new HashMap<>();
        Map<Integer, Integer> whole = new HashMap<>();
        for (int n = 0; n < CALLS && !due.failed(); n++) {
            int call = pick(random, mix);
            int key = random.nextInt(100) == 0 ? random.nextInt(100) - 50 : random.nextInt(keys);
            int value = random.nextInt(20) == 0 ? random.nextInt() : random.nextInt(100);
            int size4 = x.size(4);
            int got = answer(x, call, key, value);
            due.is("call " + n + " " + NAMES[call] + "(" + key + ", " + value + ")", answer(m, call, key, value), got);
            note(NAMES[call] + " " + (call == 4 || call == 6 || call == 9 ? Math.min(got, 1) : got));
            if (got == 1 || got == 2) {
                applyTo(now, call, key, value);
            }
            if (call == 4 && got > 0) {
                begun = new HashMap<>(now);
            }
            // A stop in META's step still settles.
            if (call == 5 && size4 == 3) {
                whole = begun;
            }
            if (call == 9 && got >= 0) {
                now = new HashMap<>(whole);
            }
            compare(n, x, m);
            if (x.size(5) == 0) {
                due.is("call " + n + " keys of the map", now.size(), x.size(6));
                if (n % 16 == 0 || call == 9) {
                    compareEntries(n, x, m);
                    compareMap(x, now);
                }
            }
        }
    }

    private static int pick(Random random, int[] mix) {
        int sum = 0;
        for (int part : mix) {
            sum += part;
        }
        int left = random.nextInt(sum);
        int call = 0;
        while (left >= mix[call]) {
            left -= mix[call++];
        }
        return call;
    }

    private static int answer(TailedStore x, int call, int key, int value) {
        return switch (call) {
            case 0 -> x.put(key, value);
            case 1 -> x.add(key, value);
            case 2 -> x.delete(key);
            case 3 -> x.read(key);
            case 4 -> x.checkpoint();
            case 5 -> x.step();
            case 6 -> x.grow();
            case 7 -> x.compact();
            case 8 -> x.fuse(value % 10) ? 1 : 0;
            default -> x.recover();
        };
    }

    private static int answer(DocModel x, int call, int key, int value) {
        return switch (call) {
            case 0 -> x.put(key, value);
            case 1 -> x.add(key, value);
            case 2 -> x.delete(key);
            case 3 -> x.read(key);
            case 4 -> x.checkpoint();
            case 5 -> x.step();
            case 6 -> x.grow();
            case 7 -> x.compact();
            case 8 -> x.fuse(value % 10) ? 1 : 0;
            default -> x.recover();
        };
    }

    private static void applyTo(Map<Integer, Integer> now, int call, int key, int value) {
        if (call == 0) {
            now.put(key, value);
        } else if (call == 1) {
            now.merge(key, value, (a, b) -> a + b);
        } else if (call == 2) {
            now.remove(key);
        }
    }

    private void compare(int n, TailedStore x, DocModel m) {
        due.is("call " + n + " value()", m.value(), x.value());
        for (int i = -1; i <= 7; i++) {
            due.is("call " + n + " size(" + i + ")", m.size(i), x.size(i));
            due.is("call " + n + " address(" + i + ")", m.address(i), x.address(i));
        }
        for (int i = -1; i <= 16; i++) {
            due.is("call " + n + " bucket(" + i + ")", m.bucket(i), x.bucket(i));
        }
        if (x.size(5) == 0) {
            for (int i = 0; i < 4; i++) {
                due.is("call " + n + " addresses in order", true, x.address(i) <= x.address(i + 1));
            }
        }
    }

    private void compareEntries(int n, TailedStore x, DocModel m) {
        for (int a = -1; a <= 400; a++) {
            for (int i = -1; i <= 5; i++) {
                due.is("call " + n + " entry(" + a + ", " + i + ")", m.entry(a, i), x.entry(a, i));
            }
        }
    }

    /** Looks at the records by the chains, so that no read is counted. */
    private void compareMap(TailedStore x, Map<Integer, Integer> now) {
        Map<Integer, Integer> first = new HashMap<>();
        for (int b = 0; b < x.size(0); b++) {
            Map<Integer, Integer> here = new HashMap<>();
            for (int a = x.bucket(b); a >= x.address(0); a = x.entry(a, 2)) {
                here.putIfAbsent(x.entry(a, 0), a);
            }
            for (Map.Entry<Integer, Integer> e : here.entrySet()) {
                first.merge(e.getKey(), e.getValue(), Math::max);
            }
        }
        for (int key = 0; key < 32; key++) {
            Integer a = first.get(key);
            boolean has = a != null && x.entry(a, 4) == 0;
            due.is("key " + key + " has a value", now.containsKey(key), has);
            if (has && now.containsKey(key)) {
                due.is("value of key " + key, now.get(key), x.entry(a, 1));
            }
        }
    }

    private void note(String answer) {
        seen.merge(answer, 1, Integer::sum);
    }

    private void checkThatAllWasSeen() {
        due.part("what the runs reach");
        String[] all = {
            "put 1", "put 2", "put -9", "put -1", "put -2", "add 1", "add 2", "add -9", "add -1", "add -2",
            "delete 0", "delete 1", "delete 2", "delete -9", "delete -1", "delete -2",
            "read 0", "read 1", "read 2", "read 3", "read -9", "read -1",
            "checkpoint 1", "checkpoint -9", "checkpoint -3", "step 1", "step 2", "step 3", "step -9", "step -3",
            "grow 1", "grow -9", "grow -3",
            "compact 0", "compact 1", "compact 2", "compact 3", "compact 4", "compact -9", "compact -3", "compact -2",
            "fuse 0", "fuse 1", "recover 0", "recover 1", "recover -3"};
        for (String answer : all) {
            due.is(answer + " was seen", true, seen.containsKey(answer));
        }
    }
}
