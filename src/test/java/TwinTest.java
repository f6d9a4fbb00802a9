import java.util.Random;
import java.util.function.Supplier;

/**
 * Runs of calls, wrong ones among them, on an object and on its Twin: both must answer, or throw,
 * the same. What the runs came through is counted, so that none of it is left out unseen.
 */
public final class TwinTest {
    private static final int RUNS = 12000;
    /** With the 197 questions at the end of a run, these are the document's 512. */
    private static final int CALLS = 315;
    private static final int[] SCHEMES = {0, 1, 2, 0, 1, 2, 3, -1, 2};
    private static final int[] WRONG = {-1, 4, 6, 21, 32, Integer.MIN_VALUE, Integer.MAX_VALUE};
    private static final int THREW = -1000;

    private static int noRoom;
    private static int givenBack;
    private static int advanced;
    private static int notAdvanced;
    private static int scanned;
    private static int inARing;
    private static int threw;

    private final SteppedList x;
    private final Twin twin;
    private final Random random;
    private final int manyKeys;
    private final int manyAsks;
    private final int manySteps;
    private final int manyInARow;
    private final boolean inserts;
    private int thread;
    private boolean differs;

    private TwinTest(int seed) {
        int scheme = SCHEMES[seed % SCHEMES.length];
        x = new SteppedList(scheme);
        twin = new Twin(scheme);
        random = new Random(seed);
        inserts = seed % 8 == 0;
        manyKeys = inserts ? 32 : 2 + random.nextInt(6);
        manyAsks = 5 + random.nextInt(40);
        manySteps = 1 + random.nextInt(60);
        manyInARow = 1 + random.nextInt(20);
    }

    public static void main(String[] args) {
        int faulty = 0;
        int full = 0;
        int rings = 0;
        for (int seed = 0; seed < RUNS; seed++) {
            TwinTest run = new TwinTest(seed);
            run.work("run " + seed);
            faulty += run.twin.faults() > 0 ? 1 : 0;
            full += run.twin.size() == 20 ? 1 : 0;
            rings += run.isRing() ? 1 : 0;
        }
        many("runs with faults", faulty, 100);
        many("runs that end with 20 blocks", full, 20);
        many("runs that end in a ring", rings, 1);
        many("results NOROOM", noRoom, 100);
        many("new blocks that are free again", givenBack, 100);
        many("advances", advanced, 100);
        many("advances that can't be", notAdvanced, 100);
        many("scans that give free", scanned, 100);
        many("finish after 300", inARing, 1);
        many("calls that throw", threw, 100);
        Due.end();
    }

    private static void many(String what, int count, int least) {
        Due.is(what + ": " + count + ", enough", count >= least, true);
    }

    private void work(String run) {
        // After a first difference all others would only follow from it.
        for (int call = 1; call <= CALLS && !differs; call++) {
            oneCall(run + ", call " + call);
        }
        for (int kind = 0; kind < 9 && !differs; kind++) {
            askAll(run + ", at its end", kind);
        }
    }

    private void oneCall(String where) {
        int t = nextThread();
        int kind = random.nextInt(60 + manyAsks);
        if (kind < 2) {
            give(where, t);
        } else if (kind >= 60) {
            int asked = random.nextInt(9);
            ask(where, asked, asked == 4 ? number(21) : asked == 6 ? number(32) : t, number(6));
        } else if (isIdle(t) == (random.nextInt(50) != 0)) {
            begin(where, t);
        } else {
            go(where, t);
        }
    }

    private void begin(String where, int t) {
        int operation = inserts && random.nextInt(4) != 0 ? 1 : number(3);
        int key = number(manyKeys);
        String name = "begin(" + t + ", " + operation + ", " + key + ")";
        int due = answer(() -> nothing(() -> twin.begin(t, operation, key)));
        compare(where, name, answer(() -> nothing(() -> x.begin(t, operation, key))), due);
    }

    private void go(String where, int t) {
        boolean whole = random.nextInt(manySteps) == 0;
        int before = newBlock(t);
        int due = answer(() -> whole ? twin.finish(t) : twin.step(t));
        givenBack += before != 0 && newBlock(t) == 0 ? 1 : 0;
        inARing += whole && due == 300 ? 1 : 0;
        noRoom += due >= 0 && isIdle(t) && twin.result(t) == 2 ? 1 : 0;
        String name = (whole ? "finish(" : "step(") + t + ")";
        compare(where, name, answer(() -> whole ? x.finish(t) : x.step(t)), due);
    }

    private void give(String where, int t) {
        boolean epochs = (random.nextInt(10) == 0) != (twin.scheme == 0);
        int due = answer(() -> epochs ? bit(twin.advance()) : twin.scan(t));
        advanced += epochs && due == 1 ? 1 : 0;
        notAdvanced += epochs && due == 0 ? 1 : 0;
        scanned += !epochs && due > 0 ? 1 : 0;
        String name = epochs ? "advance()" : "scan(" + t + ")";
        compare(where, name, answer(() -> epochs ? bit(x.advance()) : x.scan(t)), due);
    }

    private void askAll(String where, int kind) {
        int[] first = {4, 4, 4, 4, 21, 1, 32, 1, 1};
        int[] second = {1, 1, 4, 3, 6, 1, 1, 1, 1};
        for (int a = 0; a < first[kind]; a++) {
            for (int b = 0; b < second[kind]; b++) {
                ask(where, kind, a, b);
            }
        }
    }

    private void ask(String where, int kind, int a, int b) {
        String[] names = {"result", "at", "known", "says", "block", "size", "has", "faults", "epoch"};
        String name = names[kind] + " with " + a + ", " + b;
        compare(where, name, answer(() -> asked(x, kind, a, b)), answer(() -> asked(twin, kind, a, b)));
    }

    private static int asked(SteppedList of, int kind, int a, int b) {
        return switch (kind) {
            case 0 -> of.result(a);
            case 1 -> of.at(a);
            case 2 -> of.known(a, b);
            case 3 -> of.says(a, b);
            case 4 -> of.block(a, b);
            case 5 -> of.size();
            case 6 -> bit(of.has(a));
            case 7 -> of.faults();
            default -> of.epoch();
        };
    }

    private static int asked(Twin of, int kind, int a, int b) {
        return switch (kind) {
            case 0 -> of.result(a);
            case 1 -> of.at(a);
            case 2 -> of.known(a, b);
            case 3 -> of.says(a, b);
            case 4 -> of.block(a, b);
            case 5 -> of.size();
            case 6 -> bit(of.has(a));
            case 7 -> of.faults();
            default -> of.epoch();
        };
    }

    private void compare(String where, String name, int got, int due) {
        threw += due <= THREW ? 1 : 0;
        differs |= got != due;
        Due.is(where + ": " + name, got, due);
    }

    /** The answer, or a number far below all answers that stands for the exception's class. */
    private static int answer(Supplier<Integer> call) {
        try {
            return call.get();
        } catch (RuntimeException e) {
            return THREW - Math.floorMod(e.getClass().getName().hashCode(), 1000000);
        }
    }

    private static int nothing(Runnable call) {
        call.run();
        return 0;
    }

    private static int bit(boolean b) {
        return b ? 1 : 0;
    }

    /** Mostly the one before again, so that others rest long in the midst of their work. */
    private int nextThread() {
        if (random.nextInt(manyInARow) == 0) {
            thread = random.nextInt(4);
        }
        return random.nextInt(80) == 0 ? number(4) : thread;
    }

    /** Mostly one of 0 .. many - 1, now and then a wrong one. */
    private int number(int many) {
        return random.nextInt(80) == 0 ? WRONG[random.nextInt(WRONG.length)] : random.nextInt(many);
    }

    private boolean isIdle(int t) {
        return t < 0 || t > 3 || twin.at(t) == 0;
    }

    private int newBlock(int t) {
        return t < 0 || t > 3 ? 0 : twin.known(t, 3);
    }

    private boolean isRing() {
        int b = 0;
        for (int i = 0; i < 21; i++) {
            b = twin.block(b, 2);
            if (b == 0) {
                return false;
            }
        }
        return true;
    }
}
