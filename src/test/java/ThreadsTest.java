import java.util.NoSuchElementException;

/** Promises 1 to 8: a new object, and what is asked of a thread. */
public final class ThreadsTest {
    /** START, HEAD, two or three steps for each of 19 or 20 blocks, CHECK, DO, END. */
    private static final int[] STEPS_WITHOUT_ROOM = {
        2 + 2 * 19 + 3, 2 + 3 * 19 + 3, 2 + 2 * 20 + 3};
    private static final int[] NO_THREADS = {-1, 4, 5, Integer.MAX_VALUE, Integer.MIN_VALUE};

    public static void main(String[] args) {
        newObject();
        schemeOfOtherNumbers();
        beginForgets();
        beginThrows();
        stepsOfFind();
        stepsOfInsert();
        stepsOfRemove();
        stepsThatGoBackToHead();
        cutOfAnothersBlock();
        unhangThatFails();
        stepAndFinishThrow();
        finishCounts();
        finishStopsAfter300();
        resultWaitsForEnd();
        resultsOfAll();
        at();
        knownNewBlock();
        knownThrows();
        slots();
        slotsStayUntilEnd();
        announcement();
        saysThrows();
        Due.end();
    }

    private static void newObject() {
        for (int scheme = 0; scheme < 3; scheme++) {
            SteppedList x = new SteppedList(scheme);
            for (int t = 0; t < 4; t++) {
                int thread = t;
                Due.is("at of a new object", x.at(t), 0);
                Due.known(x, t, 0, 0, 0, 0);
                Due.says(x, t, -1, -1, -1);
                Due.thrown("result of a new object", NoSuchElementException.class,
                        () -> x.result(thread));
            }
            for (int b = 1; b <= 20; b++) {
                Due.block(x, b, 0, 0, 0, 0, 0, -1);
            }
            Due.block(x, 0, -1, -1, 0, -1, -1, -1);
            Due.is("size of a new object", x.size(), 0);
            Due.is("has(0) of a new object", x.has(0), false);
            Due.is("faults of a new object", x.faults(), 0);
            Due.is("epoch of a new object", x.epoch(), 0);
        }
    }

    private static void schemeOfOtherNumbers() {
        for (int scheme : new int[] {0, 3, 4, -1, Integer.MAX_VALUE, Integer.MIN_VALUE}) {
            SteppedList x = new SteppedList(scheme);
            Due.is("advance in scheme " + scheme, x.advance(), true);
            Due.thrown("scan in scheme " + scheme, UnsupportedOperationException.class,
                    () -> x.scan(0));
        }
    }

    private static void beginForgets() {
        SteppedList x = new SteppedList(0);
        Due.whole(x, 0, 1, 1, 6, 1);
        Due.whole(x, 0, 1, 2, 8, 1);
        Due.known(x, 0, 1, 0, 0, 2);
        x.begin(0, 2, 31);
        Due.is("at after begin", x.at(0), 1);
        Due.known(x, 0, 0, 0, 0, 0);
        Due.whole(x, 1, 1, 3, 10, 1);
        Due.whole(x, 1, 0, 2, 8, 1);
        Due.known(x, 1, 1, 2, 3, 0);
        x.begin(1, 0, 0);
        Due.known(x, 1, 0, 0, 0, 0);
        Due.is("other threads are idle", x.at(2) + x.at(3), 0);
    }

    private static void beginThrows() {
        SteppedList x = new SteppedList(0);
        Due.whole(x, 1, 1, 7, 6, 1);
        Due.whole(x, 1, 0, 9, 7, 0);
        x.begin(0, 0, 0);
        Due.steps(x, 0, 2);
        for (int t : NO_THREADS) {
            Due.thrown("begin(" + t + ", 0, 0)", IndexOutOfBoundsException.class,
                    () -> x.begin(t, 0, 0));
            Due.thrown("begin(" + t + ", 3, 32)", IndexOutOfBoundsException.class,
                    () -> x.begin(t, 3, 32));
        }
        for (int wrong : new int[] {-1, 3, Integer.MAX_VALUE, Integer.MIN_VALUE}) {
            beginRefuses(x, wrong, 0);
        }
        for (int wrong : new int[] {-1, 32, Integer.MAX_VALUE, Integer.MIN_VALUE}) {
            beginRefuses(x, 0, wrong);
        }
        Due.thrown("begin of a busy thread", IllegalStateException.class, () -> x.begin(0, 1, 1));
        Due.is("at of the busy thread", x.at(0), 2);
        Due.is("at of the idle thread", x.at(1), 0);
        Due.known(x, 1, 1, 0, 0, 0);
    }

    /** The arguments are tested before the state: thread 0 is busy, thread 1 idle. */
    private static void beginRefuses(SteppedList x, int operation, int key) {
        for (int t = 0; t < 2; t++) {
            int thread = t;
            Due.thrown("begin(" + t + ", " + operation + ", " + key + ")",
                    IllegalArgumentException.class, () -> x.begin(thread, operation, key));
        }
    }

    private static void stepsOfFind() {
        SteppedList x = new SteppedList(0);
        x.begin(3, 0, 0);
        Due.steps(x, 3, 2, 4, 7, 9, 0);
        Due.whole(x, 0, 1, 0, 6, 1);
        Due.whole(x, 0, 1, 31, 8, 1);
        x.begin(3, 0, 31);
        Due.steps(x, 3, 2, 4, 5, 4, 5, 7, 9, 0);
        Due.is("FIND 31", x.result(3), 1);
        // Key 31 is greater than 30, so the way ends there without anything found.
        x.begin(3, 0, 30);
        Due.steps(x, 3, 2, 4, 5, 4, 5, 7, 9, 0);
        Due.is("FIND 30", x.result(3), 0);
        SteppedList named = new SteppedList(1);
        Due.whole(named, 0, 1, 4, 6, 1);
        named.begin(1, 0, 5);
        Due.steps(named, 1, 2, 3, 4, 5, 4, 7, 9, 0);
    }

    private static void stepsOfInsert() {
        SteppedList x = new SteppedList(0);
        Due.whole(x, 0, 1, 5, 6, 1);
        x.begin(0, 1, 9);
        Due.steps(x, 0, 2, 4, 5, 4, 7);
        Due.states(x, 1, 1, 0);
        Due.steps(x, 0, 8);
        Due.block(x, 2, 1, 9, 0, 0, 1, -1);
        Due.block(x, 1, 1, 5, 0, 0, 1, -1);
        Due.steps(x, 0, 9);
        Due.block(x, 1, 1, 5, 2, 0, 1, -1);
        Due.steps(x, 0, 0);
        Due.whole(x, 0, 1, 7, 9, 1);
        Due.block(x, 3, 1, 7, 2, 0, 1, -1);
        Due.block(x, 1, 1, 5, 3, 0, 1, -1);
        x.begin(0, 1, 5);
        Due.steps(x, 0, 2, 4, 5, 7, 9, 0);
        Due.states(x, 1, 1, 1, 1, 0);
    }

    private static void stepsOfRemove() {
        SteppedList x = new SteppedList(0);
        Due.whole(x, 0, 1, 5, 6, 1);
        Due.whole(x, 0, 1, 6, 8, 1);
        x.begin(2, 2, 5);
        Due.steps(x, 2, 2, 4, 5, 7, 10);
        Due.block(x, 1, 1, 5, 2, 1, 1, -1);
        Due.is("link 0 before UNHANG", x.block(0, 2), 1);
        Due.steps(x, 2, 9);
        Due.block(x, 1, 2, 5, 2, 1, 1, 0);
        Due.is("link 0 after UNHANG", x.block(0, 2), 2);
        Due.known(x, 2, 0, 1, 2, 0);
        Due.steps(x, 2, 0);
        x.begin(2, 2, 5);
        Due.steps(x, 2, 2, 4, 5, 7, 9, 0);
        Due.is("REMOVE of what is not there", x.result(2), 0);
    }

    private static void stepsThatGoBackToHead() {
        SteppedList x = new SteppedList(0);
        // CHECK: link 0 is no more what HEAD read.
        x.begin(1, 0, 3);
        Due.steps(x, 1, 2, 4);
        Due.whole(x, 0, 1, 5, 6, 1);
        Due.steps(x, 1, 2, 4, 5, 7);
        // HANG: another block was hung there; the new one stays and is used again.
        x.begin(2, 1, 3);
        Due.steps(x, 2, 2, 4, 5, 7, 8);
        Due.whole(x, 0, 1, 2, 7, 1);
        Due.steps(x, 2, 2, 4);
        Due.known(x, 2, 0, 3, 0, 2);
        Due.steps(x, 2, 5, 4, 5, 7, 8);
        Due.block(x, 2, 1, 3, 1, 0, 1, -1);
        Due.steps(x, 2, 9, 0);
        // DO of REMOVE: HERE leads elsewhere by now.
        x.begin(3, 2, 3);
        Due.steps(x, 3, 2, 4, 5, 4, 5, 7);
        Due.whole(x, 0, 1, 4, 11, 1);
        Due.steps(x, 3, 2);
        Due.block(x, 2, 1, 3, 4, 0, 1, -1);
        // CHECK: BACK still leads to HERE, but is marked.
        x.begin(0, 0, 9);
        Due.steps(x, 0, 2, 4, 5, 4, 5, 4);
        Due.known(x, 0, 2, 4, 4, 0);
        Due.steps(x, 3, 4, 5, 4, 5, 7, 10);
        Due.steps(x, 0, 2);
    }

    private static void cutOfAnothersBlock() {
        SteppedList x = new SteppedList(0);
        Due.whole(x, 0, 1, 1, 6, 1);
        Due.whole(x, 0, 1, 2, 8, 1);
        Due.whole(x, 0, 1, 3, 10, 1);
        x.begin(1, 2, 2);
        Due.steps(x, 1, 2, 4, 5, 4, 5, 7, 10);
        x.begin(2, 0, 3);
        x.begin(3, 0, 3);
        Due.steps(x, 2, 2, 4, 5, 4, 5, 6);
        Due.steps(x, 3, 2, 4, 5, 4, 5, 6);
        Due.is("advance before the cut", x.advance(), true);
        Due.steps(x, 2, 4);
        Due.known(x, 2, 1, 3, 3, 0);
        Due.block(x, 2, 2, 2, 3, 1, 1, 1);
        Due.block(x, 1, 1, 1, 3, 0, 1, -1);
        // Another thread was faster: CUT goes back to HEAD and retires nothing.
        Due.is("advance is held up", x.advance(), false);
        Due.steps(x, 3, 2);
        Due.known(x, 3, 1, 2, 3, 0);
        Due.steps(x, 2, 5, 7, 9, 0);
        Due.is("FIND 3 past a cut", x.result(2), 1);
    }

    private static void unhangThatFails() {
        SteppedList x = new SteppedList(0);
        Due.whole(x, 0, 1, 5, 6, 1);
        x.begin(1, 2, 5);
        Due.steps(x, 1, 2, 4, 5, 7, 10);
        Due.whole(x, 0, 1, 4, 9, 1);
        Due.steps(x, 1, 9, 0);
        Due.is("REMOVE whose UNHANG fails", x.result(1), 1);
        Due.is("nothing hangs at link 0 but the new block", x.block(0, 2), 2);
        Due.states(x, 1, 2, 1);
    }

    private static void stepAndFinishThrow() {
        SteppedList x = new SteppedList(0);
        for (int t : NO_THREADS) {
            Due.thrown("step(" + t + ")", IndexOutOfBoundsException.class, () -> x.step(t));
            Due.thrown("finish(" + t + ")", IndexOutOfBoundsException.class, () -> x.finish(t));
        }
        for (int t = 0; t < 4; t++) {
            int thread = t;
            Due.thrown("step(" + t + ")", IllegalStateException.class, () -> x.step(thread));
            Due.thrown("finish(" + t + ")", IllegalStateException.class, () -> x.finish(thread));
        }
    }

    private static void finishCounts() {
        SteppedList x = new SteppedList(1);
        Due.whole(x, 0, 1, 1, 6, 1);
        Due.whole(x, 0, 1, 2, 9, 1);
        x.begin(3, 0, 2);
        Due.steps(x, 3, 2, 3, 4);
        Due.is("finish of the rest", x.finish(3), 7);
        Due.is("at after finish", x.at(3), 0);
        x.begin(3, 0, 1);
        Due.steps(x, 3, 2, 3, 4, 5, 7, 9);
        Due.is("finish of the last step", x.finish(3), 1);
    }

    /** Thread 1 takes block 1 anew and links it to itself while thread 3 stands on it. */
    private static void finishStopsAfter300() {
        SteppedList x = new SteppedList(2);
        Due.whole(x, 0, 1, 2, 6, 1);
        x.begin(1, 1, 1);
        Due.steps(x, 1, 2, 4, 5, 7);
        x.begin(3, 1, 2);
        Due.steps(x, 3, 2, 4, 5);
        Due.whole(x, 0, 2, 2, 7, 1);
        Due.steps(x, 1, 8);
        Due.block(x, 1, 1, 1, 1, 0, 2, -1);
        Due.is("finish in a ring", x.finish(3), 300);
        Due.is("at after 300 steps", x.at(3), 5);
        Due.is("finish in a ring again", x.finish(3), 300);
        Due.thrown("no result yet", NoSuchElementException.class, () -> x.result(3));
        Due.is("faults in a ring: READ and one CHECK", x.faults(), 2);
        Due.steps(x, 1, 2, 4, 7, 8);
        // The ring is open again: block 1 now leads to 0.
        Due.is("finish after the ring", x.finish(3), 5);
    }

    private static void resultWaitsForEnd() {
        SteppedList x = new SteppedList(0);
        x.begin(0, 1, 5);
        Due.steps(x, 0, 2, 4, 7, 8, 9);
        Due.thrown("result before END", NoSuchElementException.class, () -> x.result(0));
        Due.steps(x, 0, 0);
        Due.is("result after END", x.result(0), 1);
        x.begin(0, 1, 5);
        Due.is("result after begin", x.result(0), 1);
        Due.steps(x, 0, 2, 4, 5, 7, 9);
        Due.is("result of the one before", x.result(0), 1);
        Due.steps(x, 0, 0);
        Due.is("result of the next", x.result(0), 0);
        x.begin(0, 2, 5);
        Due.steps(x, 0, 2, 4, 5, 7, 10, 9);
        Due.is("result before END of REMOVE", x.result(0), 0);
        Due.steps(x, 0, 0);
        Due.is("result after END of REMOVE", x.result(0), 1);
        Due.thrown("result of another thread", NoSuchElementException.class, () -> x.result(1));
        for (int t : NO_THREADS) {
            Due.thrown("result(" + t + ")", IndexOutOfBoundsException.class, () -> x.result(t));
        }
    }

    private static void resultsOfAll() {
        for (int scheme = 0; scheme < 3; scheme++) {
            SteppedList x = new SteppedList(scheme);
            int names = scheme == 1 ? 1 : 0;
            Due.whole(x, 0, 0, 31, 5, 0);
            Due.whole(x, 0, 2, 31, 5, 0);
            Due.whole(x, 0, 1, 31, 6, 1);
            Due.whole(x, 1, 0, 31, 6 + names, 1);
            Due.whole(x, 1, 1, 31, 6 + names, 0);
            Due.whole(x, 2, 2, 31, 7 + names, 1);
            Due.whole(x, 2, 0, 31, 5, 0);
            fill(x, scheme);
            Due.whole(x, 3, 1, 31, STEPS_WITHOUT_ROOM[scheme], 2);
            Due.known(x, 3, 20, 0, 0, 0);
        }
    }

    /** Takes all blocks that are free; schemes 0 and 1 still hold the one that is retired. */
    private static void fill(SteppedList x, int scheme) {
        int room = scheme == 2 ? 20 : 19;
        for (int key = 0; key < room; key++) {
            int each = scheme == 1 ? 3 : 2;
            Due.whole(x, 0, 1, key, 6 + each * key, 1);
        }
    }

    private static void at() {
        SteppedList x = new SteppedList(1);
        x.begin(2, 1, 0);
        Due.is("at after begin", x.at(2), 1);
        for (int want : new int[] {2, 4, 7, 8, 9, 0}) {
            Due.is("step", x.step(2), want);
            Due.is("at after it", x.at(2), want);
        }
        for (int t : NO_THREADS) {
            Due.thrown("at(" + t + ")", IndexOutOfBoundsException.class, () -> x.at(t));
        }
    }

    private static void knownNewBlock() {
        SteppedList x = new SteppedList(0);
        x.begin(0, 1, 5);
        x.begin(1, 1, 5);
        Due.steps(x, 0, 2, 4, 7, 8);
        Due.steps(x, 1, 2, 4, 7, 8);
        Due.known(x, 0, 0, 0, 0, 1);
        Due.known(x, 1, 0, 0, 0, 2);
        Due.steps(x, 0, 9, 0);
        // The new block is still known as such after HANG and END.
        Due.known(x, 0, 0, 0, 0, 1);
        Due.steps(x, 1, 2, 4, 5, 7);
        Due.known(x, 1, 0, 1, 0, 2);
        Due.states(x, 2, 1);
        Due.steps(x, 1, 9);
        // Key 5 is there by now: the new block is free again, with its key, link and life.
        Due.known(x, 1, 0, 1, 0, 0);
        Due.block(x, 2, 0, 5, 0, 0, 1, -1);
        Due.steps(x, 1, 0);
        Due.is("INSERT of what another was faster with", x.result(1), 0);
    }

    private static void knownThrows() {
        SteppedList x = new SteppedList(0);
        for (int t : NO_THREADS) {
            Due.thrown("known(" + t + ", 0)", IndexOutOfBoundsException.class,
                    () -> x.known(t, 0));
        }
        for (int which : new int[] {-1, 4, Integer.MAX_VALUE, Integer.MIN_VALUE}) {
            Due.thrown("known(0, " + which + ")", IndexOutOfBoundsException.class,
                    () -> x.known(0, which));
        }
    }

    private static void slots() {
        SteppedList x = new SteppedList(1);
        for (int key = 1; key <= 4; key++) {
            Due.whole(x, 0, 1, key, 3 + 3 * key, 1);
        }
        x.begin(2, 0, 4);
        Due.steps(x, 2, 2, 3);
        Due.says(x, 2, -1, -1, -1);
        Due.steps(x, 2, 4);
        Due.says(x, 2, 1, -1, -1);
        Due.steps(x, 2, 5, 3, 4);
        Due.says(x, 2, 1, 2, -1);
        Due.steps(x, 2, 5, 3, 4);
        Due.says(x, 2, 3, 2, -1);
        Due.steps(x, 2, 5, 3, 4);
        Due.says(x, 2, 3, 4, -1);
        Due.steps(x, 2, 5, 7, 9);
        Due.says(x, 2, 3, 4, -1);
        Due.steps(x, 2, 0);
        Due.says(x, 2, -1, -1, -1);
        for (int other = 0; other < 2; other++) {
            SteppedList y = new SteppedList(other * 2);
            Due.whole(y, 0, 1, 1, 6, 1);
            y.begin(0, 0, 1);
            Due.steps(y, 0, 2, 4, 5, 7);
            Due.says(y, 0, -1, -1, other == 0 ? 0 : -1);
        }
    }

    private static void slotsStayUntilEnd() {
        SteppedList x = new SteppedList(1);
        Due.whole(x, 0, 1, 1, 6, 1);
        Due.whole(x, 0, 1, 2, 9, 1);
        x.begin(1, 0, 9);
        Due.steps(x, 1, 2, 3, 4, 5, 3, 4);
        Due.says(x, 1, 1, 2, -1);
        Due.whole(x, 0, 2, 2, 11, 1);
        // Back at HEAD both slots still name; then HERE is 0 and nothing new is named.
        Due.steps(x, 1, 2);
        Due.says(x, 1, 1, 2, -1);
        Due.whole(x, 0, 2, 1, 8, 1);
        Due.steps(x, 1, 4);
        Due.says(x, 1, 1, 2, -1);
        Due.steps(x, 1, 7, 9, 0);
        Due.says(x, 1, -1, -1, -1);
    }

    private static void announcement() {
        SteppedList x = new SteppedList(0);
        x.advance();
        x.begin(0, 0, 0);
        Due.says(x, 0, -1, -1, -1);
        x.advance();
        Due.steps(x, 0, 2);
        Due.says(x, 0, -1, -1, 2);
        x.advance();
        Due.steps(x, 0, 4, 7, 9);
        Due.says(x, 0, -1, -1, 2);
        Due.steps(x, 0, 0);
        Due.says(x, 0, -1, -1, -1);
        for (int scheme = 1; scheme < 3; scheme++) {
            SteppedList y = new SteppedList(scheme);
            y.begin(0, 0, 0);
            Due.steps(y, 0, 2);
            Due.says(y, 0, -1, -1, -1);
        }
    }

    private static void saysThrows() {
        SteppedList x = new SteppedList(1);
        for (int t : NO_THREADS) {
            Due.thrown("says(" + t + ", 0)", IndexOutOfBoundsException.class, () -> x.says(t, 0));
        }
        for (int which : new int[] {-1, 3, Integer.MAX_VALUE, Integer.MIN_VALUE}) {
            Due.thrown("says(0, " + which + ")", IndexOutOfBoundsException.class,
                    () -> x.says(0, which));
        }
    }
}
