import java.util.NoSuchElementException;

/** The sentences of promises 1 to 15 that name a boundary, in their order, with a test for each. */
public final class PromisesEdgeTest {
    private static final int MIN = Integer.MIN_VALUE;
    private static final int MAX = Integer.MAX_VALUE;
    private static final int[] NO_THREADS = {MIN, -1, 4, MAX};

    private static final Class<IndexOutOfBoundsException> INDEX = IndexOutOfBoundsException.class;
    private static final Class<IllegalArgumentException> ARGUMENT = IllegalArgumentException.class;
    private static final Class<IllegalStateException> STATE = IllegalStateException.class;
    private static final Class<NoSuchElementException> NO_ELEMENT = NoSuchElementException.class;
    private static final Class<UnsupportedOperationException> UNSUPPORTED =
            UnsupportedOperationException.class;

    public static void main(String[] args) {
        refusedCallsChangeNothing();
        anyOtherSchemeCountsAs0();
        beginTakesAllInItsRange();
        beginWithoutSuchAThread();
        beginWithoutSuchAnOperationOrKey();
        beginOfABusyThread();
        stepUntilIdle();
        stepWithoutSuchAThread();
        finishOfTheLastStep();
        finishOf300();
        finishWithoutSuchAThread();
        resultBeforeOneEnded();
        resultOfTheLatestThatEnded();
        atOfAnIdleThread();
        knownOfNothing();
        saysNothing();
        advanceThatCanNotBe();
        advanceInOtherSchemes();
        scanOfNothing();
        scanInOtherSchemes();
        blockOfTheListItself();
        blockThatThereIsNot();
        sizeOfEmptyAndFull();
        sizeWithoutMarkedBlocks();
        sizeGoesAlong20Blocks();
        hasOfOtherKeys();
        hasOfBlocksOutsideTheList();
        faultsOfNone();
        epochOfNone();
        the512thCall();
        Due.end();
    }

    /** Thread 0 is idle, 1 before UNHANG, 2 before HANG, 3 before START. */
    private static SteppedList busy(int scheme) {
        SteppedList x = Lists.of(scheme, 4, 6, 8);
        x.begin(1, 2, 6);
        Lists.until(x, 1, 10);
        x.begin(2, 1, 5);
        Lists.until(x, 2, 8);
        x.begin(3, 2, 8);
        return x;
    }

    /** "A call that throws changes nothing": one object gets such calls, its twin none. */
    private static void refusedCallsChangeNothing() {
        for (int scheme = 0; scheme < 3; scheme++) {
            SteppedList x = busy(scheme);
            SteppedList twin = busy(scheme);
            refusedBegins(x);
            refusedAsks(x);
            if (scheme != 0) {
                Due.thrown("advance()", UNSUPPORTED, x::advance);
            }
            if (scheme != 1) {
                Due.thrown("scan(1)", UNSUPPORTED, () -> x.scan(1));
            }
            Due.same("after refused calls", Picture.of(x), Picture.of(twin));
            for (int t = 1; t < 4; t++) {
                Due.is("finish(" + t + ") after refused calls", x.finish(t), twin.finish(t));
            }
            Due.same("at the end, after refused calls", Picture.of(x), Picture.of(twin));
        }
    }

    private static void refusedBegins(SteppedList x) {
        Due.thrown("begin(4, 1, 1)", INDEX, () -> x.begin(4, 1, 1));
        for (int t = 0; t < 4; t++) {
            int thread = t;
            Due.thrown("begin(" + t + ", 3, 1)", ARGUMENT, () -> x.begin(thread, 3, 1));
            Due.thrown("begin(" + t + ", 1, 32)", ARGUMENT, () -> x.begin(thread, 1, 32));
        }
        for (int t = 1; t < 4; t++) {
            int thread = t;
            Due.thrown("begin(" + t + ", 0, 31)", STATE, () -> x.begin(thread, 0, 31));
        }
    }

    private static void refusedAsks(SteppedList x) {
        Due.thrown("step(0)", STATE, () -> x.step(0));
        Due.thrown("step(-1)", INDEX, () -> x.step(-1));
        Due.thrown("finish(0)", STATE, () -> x.finish(0));
        Due.thrown("finish(4)", INDEX, () -> x.finish(4));
        Due.thrown("result(1)", NO_ELEMENT, () -> x.result(1));
        Due.thrown("result(4)", INDEX, () -> x.result(4));
        Due.thrown("at(4)", INDEX, () -> x.at(4));
        Due.thrown("known(1, 4)", INDEX, () -> x.known(1, 4));
        Due.thrown("says(1, 3)", INDEX, () -> x.says(1, 3));
        Due.thrown("scan(4)", INDEX, () -> x.scan(4));
        Due.thrown("block(21, 0)", INDEX, () -> x.block(21, 0));
        Due.thrown("block(1, 6)", INDEX, () -> x.block(1, 6));
    }

    /** Promise 1: "Scheme 0, 1 or 2 (any other number counts as 0)". */
    private static void anyOtherSchemeCountsAs0() {
        for (int scheme : new int[] {0, 3, -1, -2, 256, 257, 258, MIN, MIN + 1, MAX}) {
            SteppedList x = Lists.of(scheme, 5);
            x.begin(1, 2, 5);
            Due.steps(x, 1, 2);
            Due.says(x, 1, -1, -1, 0);
            Due.steps(x, 1, 4, 5, 7, 10, 9, 0);
            Due.block(x, 1, 2, 5, 0, 1, 1, 0);
            Due.is("advance in scheme " + scheme, x.advance(), true);
            Due.thrown("scan in scheme " + scheme, UNSUPPORTED, () -> x.scan(0));
        }
        for (int scheme = 1; scheme < 3; scheme++) {
            SteppedList x = Lists.of(scheme, 5);
            x.begin(1, 2, 5);
            Due.steps(x, 1, 2, scheme == 1 ? 3 : 4);
            x.finish(1);
            Due.states(x, 1, scheme == 1 ? 2 : 0);
        }
    }

    /** Promise 2: threads 0 .. 3, operations 0 .. 2 and keys 0 .. 31 are taken; the step is 1. */
    private static void beginTakesAllInItsRange() {
        for (int operation = 0; operation < 3; operation++) {
            for (int key = 0; key < 32; key++) {
                SteppedList x = new SteppedList(0);
                int t = key % 4;
                x.begin(t, operation, key);
                Due.is("at after begin", x.at(t), 1);
                x.finish(t);
                Due.is("result of operation " + operation, x.result(t), operation == 1 ? 1 : 0);
                Due.is("has(" + key + ")", x.has(key), operation == 1);
            }
        }
    }

    /** Promise 2: "IndexOutOfBoundsException if there is no thread t", before all else. */
    private static void beginWithoutSuchAThread() {
        SteppedList x = busy(0);
        for (int t : NO_THREADS) {
            Due.thrown("begin(" + t + ", 0, 0)", INDEX, () -> x.begin(t, 0, 0));
            Due.thrown("begin(" + t + ", 3, 0)", INDEX, () -> x.begin(t, 3, 0));
            Due.thrown("begin(" + t + ", 0, 32)", INDEX, () -> x.begin(t, 0, 32));
            Due.thrown("begin(" + t + ", -1, -1)", INDEX, () -> x.begin(t, -1, -1));
        }
    }

    /** Promise 2: "IllegalArgumentException if operation is not 0 .. 2 or key not 0 .. 31". */
    private static void beginWithoutSuchAnOperationOrKey() {
        SteppedList x = busy(0);
        for (int t = 0; t < 4; t++) {
            int thread = t;
            for (int operation : new int[] {MIN, -1, 3, MAX}) {
                Due.thrown("begin(" + t + ", " + operation + ", 0)", ARGUMENT,
                        () -> x.begin(thread, operation, 0));
            }
            for (int key : new int[] {MIN, -1, 32, MAX}) {
                Due.thrown("begin(" + t + ", 2, " + key + ")", ARGUMENT,
                        () -> x.begin(thread, 2, key));
            }
        }
        Due.is("at of the idle thread", x.at(0), 0);
    }

    /** Promise 2: "IllegalStateException if it is not idle", before its first step and its last. */
    private static void beginOfABusyThread() {
        SteppedList x = new SteppedList(0);
        x.begin(2, 1, 7);
        for (int want : new int[] {2, 4, 7, 8, 9}) {
            Due.thrown("begin of a busy thread", STATE, () -> x.begin(2, 0, 0));
            Due.steps(x, 2, want);
        }
        Due.thrown("begin before END", STATE, () -> x.begin(2, 0, 0));
        Due.steps(x, 2, 0);
        x.begin(2, 0, 7);
        Due.is("at after the next begin", x.at(2), 1);
    }

    /** Promise 3: "0 if it is idle" and "IllegalStateException if it is idle". */
    private static void stepUntilIdle() {
        SteppedList x = new SteppedList(0);
        for (int t = 0; t < 4; t++) {
            int thread = t;
            Due.thrown("step of a new thread", STATE, () -> x.step(thread));
            x.begin(t, 0, 0);
            Due.steps(x, t, 2, 4, 7, 9, 0);
            Due.thrown("step of a thread that ended", STATE, () -> x.step(thread));
        }
    }

    /** Promise 3: "IndexOutOfBoundsException if there is no thread t". */
    private static void stepWithoutSuchAThread() {
        SteppedList x = busy(1);
        for (int t : NO_THREADS) {
            Due.thrown("step(" + t + ")", INDEX, () -> x.step(t));
        }
    }

    /** Promise 4: "does its steps until it is idle. Answers how many", from any step on. */
    private static void finishOfTheLastStep() {
        for (int before = 0; before < 6; before++) {
            SteppedList x = new SteppedList(2);
            x.begin(0, 1, 5);
            for (int i = 0; i < before; i++) {
                x.step(0);
            }
            Due.thrown("result before finish", NO_ELEMENT, () -> x.result(0));
            Due.is("finish after " + before + " steps", x.finish(0), 6 - before);
            Due.is("at after finish", x.at(0), 0);
            Due.is("result after finish", x.result(0), 1);
        }
    }

    /**
     * Promise 4: "but 300 at most". Thread 1 takes block 1, which was given free, as its new block,
     * and links it to HERE, which is block 1; thread 3, before READ of it, goes round for ever.
     */
    private static void finishOf300() {
        SteppedList x = Lists.of(2, 2);
        x.begin(1, 1, 1);
        Due.steps(x, 1, 2, 4, 5, 7);
        x.begin(3, 0, 9);
        Due.steps(x, 3, 2, 4, 5);
        Lists.remove(x, 0, 2);
        Due.steps(x, 1, 8);
        Due.block(x, 1, 1, 1, 1, 0, 2, -1);
        Due.is("finish in a ring", x.finish(3), 300);
        Due.is("at after 300 steps, the first of them READ", x.at(3), 5);
        Due.steps(x, 3, 4);
        Due.is("finish in a ring again", x.finish(3), 300);
        Due.is("at after 300 steps, the first of them CHECK", x.at(3), 4);
        Due.thrown("result in a ring", NO_ELEMENT, () -> x.result(3));
        Due.thrown("begin in a ring", STATE, () -> x.begin(3, 0, 0));
    }

    /** Promise 4: "Throws as step()". */
    private static void finishWithoutSuchAThread() {
        SteppedList x = busy(2);
        for (int t : NO_THREADS) {
            Due.thrown("finish(" + t + ")", INDEX, () -> x.finish(t));
        }
        Due.thrown("finish of an idle thread", STATE, () -> x.finish(0));
        x.finish(1);
        Due.thrown("finish of a thread that ended", STATE, () -> x.finish(1));
    }

    /** Promise 5: "IndexOutOfBoundsException if ..", "NoSuchElementException if none ended yet". */
    private static void resultBeforeOneEnded() {
        SteppedList x = new SteppedList(0);
        for (int t : NO_THREADS) {
            Due.thrown("result(" + t + ")", INDEX, () -> x.result(t));
        }
        x.begin(2, 0, 0);
        Due.thrown("result before START", NO_ELEMENT, () -> x.result(2));
        Due.steps(x, 2, 2, 4, 7, 9);
        Due.thrown("result before END", NO_ELEMENT, () -> x.result(2));
        Due.steps(x, 2, 0);
        Due.is("result after END", x.result(2), 0);
        for (int t : new int[] {0, 1, 3}) {
            Due.thrown("result of another thread", NO_ELEMENT, () -> x.result(t));
        }
    }

    /** Promise 5: "latest operation that ended, by step 9": FALSE, TRUE and NOROOM. */
    private static void resultOfTheLatestThatEnded() {
        SteppedList x = new SteppedList(2);
        for (int key = 0; key < 20; key++) {
            Lists.insert(x, 0, key);
        }
        Due.is("INSERT with room", x.result(0), SteppedList.TRUE);
        x.begin(0, 1, 30);
        Lists.until(x, 0, 9);
        Due.is("result before END", x.result(0), SteppedList.TRUE);
        Due.steps(x, 0, 0);
        Due.is("INSERT without room", x.result(0), SteppedList.NOROOM);
        x.begin(0, 1, 0);
        Due.is("result after begin", x.result(0), SteppedList.NOROOM);
        Lists.until(x, 0, 9);
        Due.is("result before END", x.result(0), SteppedList.NOROOM);
        Due.steps(x, 0, 0);
        Due.is("INSERT of what is there", x.result(0), SteppedList.FALSE);
    }

    /** Promise 6: "0 if it is idle", "IndexOutOfBoundsException if there is no thread t". */
    private static void atOfAnIdleThread() {
        SteppedList x = busy(0);
        int[] want = {0, 10, 8, 1};
        for (int t = 0; t < 4; t++) {
            Due.is("at(" + t + ")", x.at(t), want[t]);
        }
        x.finish(1);
        Due.is("at(1) after END", x.at(1), 0);
        for (int t : NO_THREADS) {
            Due.thrown("at(" + t + ")", INDEX, () -> x.at(t));
        }
    }

    /** Promise 7: "if there is no thread t or which is not 0 .. 3". */
    private static void knownOfNothing() {
        SteppedList x = busy(0);
        Due.known(x, 1, 1, 2, 3, 0);
        Due.known(x, 2, 1, 3, 0, 4);
        Due.known(x, 3, 0, 0, 0, 0);
        for (int t : NO_THREADS) {
            for (int which : new int[] {-1, 0, 3, 4}) {
                Due.thrown("known(" + t + ", " + which + ")", INDEX, () -> x.known(t, which));
            }
        }
        for (int which : new int[] {MIN, -1, 4, MAX}) {
            Due.thrown("known(1, " + which + ")", INDEX, () -> x.known(1, which));
        }
    }

    /** Promise 8: "NONE if nothing", "if there is no thread t or which is not 0 .. 2". */
    private static void saysNothing() {
        SteppedList x = busy(1);
        Due.says(x, 0, SteppedList.NONE, SteppedList.NONE, SteppedList.NONE);
        Due.says(x, 1, 1, 2, SteppedList.NONE);
        Due.says(x, 3, SteppedList.NONE, SteppedList.NONE, SteppedList.NONE);
        for (int t : NO_THREADS) {
            for (int which : new int[] {-1, 0, 2, 3}) {
                Due.thrown("says(" + t + ", " + which + ")", INDEX, () -> x.says(t, which));
            }
        }
        for (int which : new int[] {MIN, -1, 3, MAX}) {
            Due.thrown("says(1, " + which + ")", INDEX, () -> x.says(1, which));
        }
        // Epoch 0 is something that is announced, unlike nothing.
        SteppedList y = busy(0);
        Due.says(y, 1, SteppedList.NONE, SteppedList.NONE, 0);
    }

    /** Promise 9: "Advances the epoch if it can be": if not, no block becomes free either. */
    private static void advanceThatCanNotBe() {
        SteppedList x = Lists.of(0, 5);
        Lists.remove(x, 0, 5);
        x.begin(1, 0, 5);
        Due.steps(x, 1, 2);
        Due.is("advance", x.advance(), true);
        for (int i = 0; i < 3; i++) {
            Due.is("advance that can't be", x.advance(), false);
            Due.is("epoch after it", x.epoch(), 1);
            Due.block(x, 1, 2, 5, 0, 1, 1, 0);
        }
        x.finish(1);
        Due.is("advance that can be again", x.advance(), true);
        Due.is("epoch after it", x.epoch(), 2);
        Due.block(x, 1, 0, 5, 0, 1, 1, -1);
    }

    /** Promise 9: "UnsupportedOperationException if the scheme is not 0". */
    private static void advanceInOtherSchemes() {
        for (int scheme = 1; scheme < 3; scheme++) {
            SteppedList x = busy(scheme);
            Due.thrown("advance in scheme " + scheme, UNSUPPORTED, x::advance);
            Due.is("epoch after it", x.epoch(), 0);
        }
    }

    /** Promise 10: "Answers how many blocks become free": none, and all at most. */
    private static void scanOfNothing() {
        SteppedList x = Lists.of(1, 1, 2, 3);
        for (int t = 0; t < 4; t++) {
            Due.is("scan(" + t + ") of nothing", x.scan(t), 0);
        }
        Due.states(x, 1, 1, 1, 1, 0);
        for (int key = 1; key <= 3; key++) {
            Lists.remove(x, 3, key);
        }
        for (int t = 0; t < 3; t++) {
            Due.is("scan(" + t + ") of another's", x.scan(t), 0);
        }
        Due.is("scan(3)", x.scan(3), 3);
        Due.is("scan(3) again", x.scan(3), 0);
    }

    /** Promise 10: no thread is tested before the scheme, as it is named first. */
    private static void scanInOtherSchemes() {
        for (int scheme = 0; scheme < 3; scheme++) {
            SteppedList x = busy(scheme);
            for (int t : NO_THREADS) {
                Due.thrown("scan(" + t + ") in scheme " + scheme, INDEX, () -> x.scan(t));
            }
            for (int t = 0; t < 4 && scheme != 1; t++) {
                int thread = t;
                Due.thrown("scan(" + t + ") in scheme " + scheme, UNSUPPORTED,
                        () -> x.scan(thread));
            }
        }
    }

    /** Promise 11: "Block 0 is the list itself: what 2 alone, NONE for others." */
    private static void blockOfTheListItself() {
        for (int scheme = 0; scheme < 3; scheme++) {
            Due.block(new SteppedList(scheme), 0, -1, -1, 0, -1, -1, -1);
            Due.block(busy(scheme), 0, -1, -1, 1, -1, -1, -1);
        }
    }

    /** Promise 11: "if there is no such block, or what is not 0 .. 5", of the list itself too. */
    private static void blockThatThereIsNot() {
        SteppedList x = busy(0);
        for (int b : new int[] {MIN, -1, 21, MAX}) {
            for (int what : new int[] {-1, 0, 2, 5, 6}) {
                Due.thrown("block(" + b + ", " + what + ")", INDEX, () -> x.block(b, what));
            }
        }
        for (int what : new int[] {MIN, -1, 6, MAX}) {
            for (int b : new int[] {0, 1, 20}) {
                Due.thrown("block(" + b + ", " + what + ")", INDEX, () -> x.block(b, what));
            }
        }
        Due.block(x, 20, 0, 0, 0, 0, 0, -1);
    }

    /** Promise 12: 0 blocks, 1, and all 20 of them. */
    private static void sizeOfEmptyAndFull() {
        for (int scheme = 0; scheme < 3; scheme++) {
            SteppedList x = new SteppedList(scheme);
            for (int key = 0; key < 20; key++) {
                Due.is("size", x.size(), key);
                Lists.insert(x, 0, 20 - key);
            }
            Due.is("size of a full list", x.size(), 20);
            Lists.insert(x, 0, 31);
            Due.is("size after NO ROOM", x.size(), 20);
            Due.is("has of the last block gone along", x.has(20), true);
        }
    }

    /** Promise 12: "that are not marked": one goes on through marked ones, first, last or all. */
    private static void sizeWithoutMarkedBlocks() {
        SteppedList x = Lists.of(0, 1, 2, 3);
        int[] keys = {3, 2, 1};
        for (int t = 1; t <= 3; t++) {
            int key = keys[t - 1];
            x.begin(t, 2, key);
            Lists.until(x, t, 7);
            Due.is("size before DO", x.size(), 4 - t);
            Due.is("has before DO", x.has(key), true);
            Due.steps(x, t, 10);
            Due.is("size after DO", x.size(), 3 - t);
            Due.is("has after DO", x.has(key), false);
        }
        SteppedList first = Lists.of(0, 1, 2, 3);
        first.begin(1, 2, 1);
        Lists.until(first, 1, 10);
        Due.is("size behind a marked block", first.size(), 2);
        Due.is("has(1)", first.has(1), false);
        Due.is("has(2)", first.has(2), true);
        Due.is("has(3)", first.has(3), true);
    }

    /** Promise 12: "20 blocks at most are gone along", also where the links go round. */
    private static void sizeGoesAlong20Blocks() {
        SteppedList x = ring();
        Due.block(x, 0, -1, -1, 1, -1, -1, -1);
        Due.block(x, 1, 1, 2, 2, 0, 2, -1);
        Due.block(x, 2, 1, 3, 1, 0, 3, -1);
        Due.is("size of a ring", x.size(), 20);
        Due.is("has(2) in a ring", x.has(2), true);
        Due.is("has(3) in a ring", x.has(3), true);
        Due.is("has(4) in a ring", x.has(4), false);
    }

    /** Scheme 2 goes wrong: blocks 1 and 2 lead to one another, and link 0 to block 1. */
    private static SteppedList ring() {
        SteppedList x = new SteppedList(2);
        Lists.insert(x, 0, 2);
        Lists.insert(x, 0, 0);
        x.begin(2, 2, 0);
        Lists.until(x, 2, 10);
        Lists.insert(x, 0, 1);
        x.begin(1, 2, 2);
        Lists.until(x, 1, 10);
        x.begin(3, 1, 2);
        Lists.until(x, 3, 8);
        x.finish(2);
        Lists.insert(x, 2, 3);
        x.finish(3);
        return x;
    }

    /** Promise 13: a key that there can't be is none that a block has. */
    private static void hasOfOtherKeys() {
        SteppedList x = Lists.of(0, 0, 31);
        Due.is("has(0)", x.has(0), true);
        Due.is("has(31)", x.has(31), true);
        for (int key : new int[] {MIN, -1, 1, 30, 32, MAX}) {
            Due.is("has(" + key + ")", x.has(key), false);
        }
    }

    /** Promise 13: "one of those that size() counts": no free, new or retired block. */
    private static void hasOfBlocksOutsideTheList() {
        for (int scheme = 0; scheme < 3; scheme++) {
            SteppedList x = new SteppedList(scheme);
            Due.is("has(0) of free blocks", x.has(0), false);
            x.begin(1, 1, 7);
            Lists.until(x, 1, 8);
            Due.is("has(7) of a new block", x.has(7), false);
            x.finish(1);
            Due.is("has(7) of a block that hangs", x.has(7), true);
            Lists.remove(x, 1, 7);
            Due.is("has(7) of a block taken out", x.has(7), false);
            Due.is("key of the block taken out", x.block(1, 1), 7);
        }
    }

    /** Promise 14: none without a look, and none of an operation that is alone. */
    private static void faultsOfNone() {
        for (int scheme = 0; scheme < 3; scheme++) {
            SteppedList x = new SteppedList(scheme);
            Due.is("faults of a new object", x.faults(), 0);
            for (int key = 0; key < 10; key++) {
                Lists.insert(x, key % 4, key);
                Lists.find(x, key % 3, key);
                Lists.remove(x, key % 2, key);
            }
            Due.is("faults of operations one by one", x.faults(), 0);
        }
    }

    /** Promise 15: 0 at first, and always in schemes 1 and 2. */
    private static void epochOfNone() {
        for (int scheme = 0; scheme < 3; scheme++) {
            SteppedList x = busy(scheme);
            Due.is("epoch", x.epoch(), 0);
            for (int t = 1; t < 4; t++) {
                x.finish(t);
            }
            Due.is("epoch at the end", x.epoch(), 0);
        }
    }

    /** "An object is used for at most 512 calls": the last of them still answers as the first. */
    private static void the512thCall() {
        SteppedList x = new SteppedList(0);
        for (int call = 1; call < 512; call++) {
            Due.is("advance, call " + call, x.advance(), true);
        }
        Due.is("epoch, call 512", x.epoch(), 511);
        SteppedList y = new SteppedList(1);
        y.begin(0, 1, 7);
        y.finish(0);
        for (int call = 2; call < 510; call += 4) {
            y.begin(0, 2, 7);
            y.finish(0);
            y.begin(0, 1, 7);
            y.finish(0);
        }
        Due.is("has(7), call 511", y.has(7), true);
        Due.is("result, call 512", y.result(0), 1);
    }
}
