import java.util.Random;

/** The calls of the face by number, for runs that are made and not written down. */
final class AnyCall {
    static final int KINDS = 15;
    private static final String[] NAMES = {"put", "add", "delete", "read", "value", "checkpoint", "step", "grow",
        "compact", "fuse", "recover", "address", "entry", "bucket", "size"};
    private static final int[] ARGUMENTS = {2, 2, 1, 1, 0, 0, 0, 0, 0, 1, 0, 1, 2, 1, 1};

    private AnyCall() { }

    /** Half of the calls are puts, so that the log grows long. */
    static int kind(Random random) {
        return Math.max(0, random.nextInt(2 * KINDS) - KINDS);
    }

    static int answer(TailedStore x, int kind, int a, int b) {
        return switch (kind) {
            case 0 -> x.put(a, b);
            case 1 -> x.add(a, b);
            case 2 -> x.delete(a);
            case 3 -> x.read(a);
            case 4 -> x.value();
            case 5 -> x.checkpoint();
            case 6 -> x.step();
            case 7 -> x.grow();
            case 8 -> x.compact();
            case 9 -> x.fuse(a) ? 1 : 0;
            case 10 -> x.recover();
            case 11 -> x.address(a);
            case 12 -> x.entry(a, b);
            case 13 -> x.bucket(a);
            default -> x.size(a);
        };
    }

    static int arguments(int kind) {
        return ARGUMENTS[kind];
    }

    static String name(int kind, int a, int b) {
        String[] arguments = {"()", "(" + a + ")", "(" + a + ", " + b + ")"};
        return NAMES[kind] + arguments[ARGUMENTS[kind]];
    }
}
