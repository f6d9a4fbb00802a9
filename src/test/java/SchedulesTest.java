import java.util.Random;

/**
 * Many mixed orders of steps. In schemes 0 and 1 the list must stay whole under all of them; in
 * scheme 2 it need not, but every call must end, with an answer that the document allows.
 */
public final class SchedulesTest {
    private static final int RUNS = 600;
    private static final int CALLS = 500;

    private final SteppedList x;
    private final int scheme;
    private final Random random;
    private final boolean[] keys = new boolean[32];
    private final int[] operation = new int[4];
    private final int[] key = new int[4];

    private SchedulesTest(int scheme, int seed) {
        this.scheme = scheme;
        x = new SteppedList(scheme);
        random = new Random(seed);
    }

    public static void main(String[] args) {
        int faultyRuns = 0;
        for (int seed = 0; seed < RUNS; seed++) {
            for (int scheme = 0; scheme < 3; scheme++) {
                SchedulesTest run = new SchedulesTest(scheme, seed);
                run.work(3 + seed % 29);
                if (scheme == 2 && run.x.faults() > 0) {
                    faultyRuns++;
                }
            }
        }
        Due.is("scheme 2 goes wrong in many runs", faultyRuns > RUNS / 4, true);
        Due.end();
    }

    private void work(int manyKeys) {
        for (int call = 0; call < CALLS; call++) {
            int t = random.nextInt(4);
            if (x.at(t) == 0) {
                operation[t] = random.nextInt(3);
                key[t] = random.nextInt(manyKeys);
                x.begin(t, operation[t], key[t]);
            } else if (random.nextInt(40) == 0) {
                giveFree(t);
            } else {
                oneStep(t);
            }
            if (scheme < 2) {
                listIsWhole();
            } else {
                answersAreAllowed(t);
            }
        }
    }

    private void giveFree(int t) {
        if (scheme == 0) {
            x.advance();
        } else if (scheme == 1) {
            x.scan(t);
        }
    }

    /** Follows what the list must hold: INSERT counts from HANG on, REMOVE from its DO on. */
    private void oneStep(int t) {
        int from = x.at(t);
        int to = x.step(t);
        Due.is("at after step", x.at(t), to);
        if (scheme == 2) {
            return;
        }
        if (from == 8 && to == 9) {
            Due.is("key that is hung was there", keys[key[t]], false);
            keys[key[t]] = true;
        } else if (from == 7 && to == 10) {
            Due.is("key that is marked was there", keys[key[t]], true);
            keys[key[t]] = false;
        }
    }

    private void listIsWhole() {
        Due.is("faults in scheme " + scheme, x.faults(), 0);
        int size = 0;
        for (int k = 0; k < 32; k++) {
            size += keys[k] ? 1 : 0;
            if (x.has(k) != keys[k]) {
                Due.is("has(" + k + ")", x.has(k), keys[k]);
            }
        }
        Due.is("size", x.size(), size);
        boolean[] reached = new boolean[21];
        int last = -1;
        for (int b = x.block(0, 2); b != 0 && !reached[b]; b = x.block(b, 2)) {
            reached[b] = true;
            Due.is("a block of the list is in use", x.block(b, 0), 1);
            Due.is("keys go up", x.block(b, 1) > last, true);
            last = x.block(b, 1);
        }
        sayingsAreRight();
        retiredAreToldSo();
    }

    private void sayingsAreRight() {
        for (int t = 0; t < 4; t++) {
            Due.is("who is idle says nothing", x.at(t) == 0
                    && (x.says(t, 0) != -1 || x.says(t, 1) != -1 || x.says(t, 2) != -1), false);
            Due.is("who is past START announces", scheme == 0 && x.at(t) > 1
                    && x.says(t, 2) == -1, false);
            int announced = x.says(t, 2);
            Due.is("no announcement is old", announced != -1 && announced < x.epoch() - 1, false);
        }
    }

    private void retiredAreToldSo() {
        for (int b = 1; b <= 20; b++) {
            Due.is("retired with something", x.block(b, 5) != -1, x.block(b, 0) == 2);
        }
    }

    private void answersAreAllowed(int t) {
        Due.is("size within 0 .. 20", x.size() >= 0 && x.size() <= 20, true);
        for (int b = 1; b <= 20; b++) {
            Due.is("no block stays retired", x.block(b, 0) == 2, false);
        }
        Due.is("nothing is said", x.says(t, 0) + x.says(t, 1) + x.says(t, 2), -3);
        Due.is("step within 0 .. 10, and no NAME", x.at(t) >= 0 && x.at(t) <= 10 && x.at(t) != 3,
                true);
    }
}
