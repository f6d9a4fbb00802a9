import java.util.Arrays;
import java.util.NoSuchElementException;

/**
 * The document written down a second time, from its first line, without regard to the program: one
 * row of numbers for each word of "Terms", and a link and its mark as one number.
 */
final class Twin {
    private static final int MARK = 100;

    final int scheme;
    private int epoch;
    private int faults;

    private final int[] state = new int[21];
    private final int[] key = new int[21];
    /** What a link says: a block or 0, and MARK more if it is marked. */
    private final int[] link = new int[21];
    private final int[] life = new int[21];
    private final int[] retiredWith = new int[21];

    private final int[] before = new int[4];
    private final int[] operation = new int[4];
    private final int[] wanted = new int[4];
    private final int[][] known = new int[4][4];
    private final int[] lifeOfBack = new int[4];
    private final int[] lifeOfHere = new int[4];
    private final boolean[] found = new boolean[4];
    private final int[] result = new int[4];
    private final int[] ended = {-1, -1, -1, -1};
    private final int[][] says = {{-1, -1, -1}, {-1, -1, -1}, {-1, -1, -1}, {-1, -1, -1}};

    Twin(int scheme) {
        this.scheme = scheme == 1 ? 1 : scheme == 2 ? 2 : 0;
    }

    void begin(int t, int op, int k) {
        thread(t);
        if (op != 0 && op != 1 && op != 2 || k < 0 || k > 31) {
            throw new IllegalArgumentException();
        }
        if (before[t] != 0) {
            throw new IllegalStateException();
        }
        operation[t] = op;
        wanted[t] = k;
        Arrays.fill(known[t], 0);
        found[t] = false;
        before[t] = 1;
    }

    int step(int t) {
        thread(t);
        if (before[t] == 0) {
            throw new IllegalStateException();
        }
        before[t] = afterStep(t, known[t]);
        return before[t];
    }

    int finish(int t) {
        int steps = 0;
        do {
            step(t);
            steps++;
        } while (steps != 300 && before[t] != 0);
        return steps;
    }

    int result(int t) {
        thread(t);
        if (ended[t] == -1) {
            throw new NoSuchElementException();
        }
        return ended[t];
    }

    int at(int t) {
        thread(t);
        return before[t];
    }

    int known(int t, int which) {
        thread(t);
        within(which, 3);
        return known[t][which];
    }

    int says(int t, int which) {
        thread(t);
        within(which, 2);
        return says[t][which];
    }

    boolean advance() {
        if (scheme != 0) {
            throw new UnsupportedOperationException();
        }
        for (int[] said : says) {
            if (said[2] != -1 && said[2] != epoch) {
                return false;
            }
        }
        epoch += 1;
        for (int b = 1; b <= 20; b++) {
            if (state[b] == 2 && epoch - retiredWith[b] >= 2) {
                state[b] = 0;
            }
        }
        return true;
    }

    int scan(int t) {
        thread(t);
        if (scheme != 1) {
            throw new UnsupportedOperationException();
        }
        return scanned(t);
    }

    int block(int b, int what) {
        within(b, 20);
        within(what, 5);
        if (b == 0) {
            return what == 2 ? link[0] : -1;
        }
        int[] all = {state[b], key[b], link[b] % MARK, link[b] / MARK, life[b],
            state[b] == 2 ? retiredWith[b] : -1};
        return all[what];
    }

    int size() {
        return (int) Arrays.stream(goneAlong()).filter(b -> b != 0 && link[b] < MARK).count();
    }

    boolean has(int k) {
        return Arrays.stream(goneAlong()).anyMatch(b -> b != 0 && link[b] < MARK && key[b] == k);
    }

    int faults() {
        return faults;
    }

    int epoch() {
        return epoch;
    }

    /** Does the step of a thread, of which this is known, and answers the next one. */
    private int afterStep(int t, int[] k) {
        switch (before[t]) {
            case 1:
                says[t][2] = scheme == 0 ? epoch : -1;
                return 2;
            case 2:
                k[0] = 0;
                return onWith(t, link[0]);
            case 3:
                says[t][k[0] != 0 && says[t][0] == k[0] ? 1 : 0] = k[1];
                return 4;
            case 4:
                lookAtBack(t);
                if (link[k[0]] != k[1]) {
                    return 2;
                }
                found[t] = found[t] && k[1] != 0;
                return k[1] == 0 ? 7 : 5;
            case 5:
                return read(t, k);
            case 6:
                return backBecomes(t, k[2]) && retire(t, k[1]) ? onWith(t, k[2]) : 2;
            case 7:
                return operation[t] == 0 ? end(t, found[t] ? 1 : 0)
                        : operation[t] == 1 ? insert(t, k) : remove(t, k);
            case 8:
                return backBecomes(t, k[3]) ? end(t, 1) : 2;
            case 9:
                Arrays.fill(says[t], -1);
                ended[t] = result[t];
                return 0;
            default:
                if (backBecomes(t, k[2])) {
                    retire(t, k[1]);
                }
                return end(t, 1);
        }
    }

    private int onWith(int t, int b) {
        known[t][1] = b;
        lifeOfHere[t] = life[b];
        return scheme == 1 && b != 0 ? 3 : 4;
    }

    private int read(int t, int[] k) {
        look(k[1], lifeOfHere[t]);
        k[2] = link[k[1]] % MARK;
        if (link[k[1]] >= MARK) {
            return 6;
        }
        if (key[k[1]] >= wanted[t]) {
            found[t] = key[k[1]] == wanted[t];
            return 7;
        }
        k[0] = k[1];
        lifeOfBack[t] = lifeOfHere[t];
        return onWith(t, k[2]);
    }

    private int insert(int t, int[] k) {
        if (found[t]) {
            if (k[3] != 0) {
                state[k[3]] = 0;
            }
            k[3] = 0;
            return end(t, 0);
        }
        for (int b = 1; b <= 20 && k[3] == 0; b++) {
            if (state[b] == 0) {
                state[b] = 1;
                life[b] += 1;
                k[3] = b;
            }
        }
        if (k[3] == 0) {
            return end(t, 2);
        }
        key[k[3]] = wanted[t];
        link[k[3]] = k[1];
        return 8;
    }

    private int remove(int t, int[] k) {
        if (!found[t]) {
            return end(t, 0);
        }
        look(k[1], lifeOfHere[t]);
        if (link[k[1]] != k[2]) {
            return 2;
        }
        link[k[1]] = k[2] + MARK;
        return 10;
    }

    private int end(int t, int with) {
        result[t] = with;
        return 9;
    }

    private boolean backBecomes(int t, int b) {
        lookAtBack(t);
        if (link[known[t][0]] != known[t][1]) {
            return false;
        }
        link[known[t][0]] = b;
        return true;
    }

    private void lookAtBack(int t) {
        if (known[t][0] != 0) {
            look(known[t][0], lifeOfBack[t]);
        }
    }

    private void look(int b, int lifeKnown) {
        faults += state[b] == 0 || life[b] != lifeKnown ? 1 : 0;
    }

    private boolean retire(int t, int b) {
        state[b] = scheme == 2 ? 0 : 2;
        retiredWith[b] = scheme == 0 ? epoch : t;
        int own = 0;
        for (int o = 1; o <= 20; o++) {
            own += state[o] == 2 && retiredWith[o] == t ? 1 : 0;
        }
        if (scheme == 1 && own > 3) {
            scanned(t);
        }
        return true;
    }

    private int scanned(int t) {
        boolean[] named = new boolean[21];
        for (int[] said : says) {
            named[Math.max(said[0], 0)] = true;
            named[Math.max(said[1], 0)] = true;
        }
        int freed = 0;
        for (int b = 1; b <= 20; b++) {
            if (state[b] == 2 && retiredWith[b] == t && !named[b]) {
                state[b] = 0;
                freed++;
            }
        }
        return freed;
    }

    private int[] goneAlong() {
        int[] way = new int[20];
        way[0] = link[0];
        for (int i = 1; i < 20 && way[i - 1] != 0; i++) {
            way[i] = link[way[i - 1]] % MARK;
        }
        return way;
    }

    private static void thread(int t) {
        within(t, 3);
    }

    private static void within(int n, int most) {
        if (n < 0 || n > most) {
            throw new IndexOutOfBoundsException();
        }
    }
}
