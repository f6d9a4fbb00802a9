/** The sentences of "Terms" on lives, looks, faults and retired blocks, with a test for each. */
public final class SchemesEdgeTest {
    public static void main(String[] args) {
        lifeWhenHereBecomesABlock();
        lifeWhenBackBecomesHere();
        looksAtBackIn4();
        looksAtBackIn6And10();
        looksAtBackIn8();
        looksAtHereIn5();
        looksAtHereIn7();
        noLookAtTheListItself();
        freeAndOfAnotherLifeIsOneFault();
        retiredBlocksAreNoFault();
        retiredWithTheEpochThatThereIs();
        eachThreadHoldsTheEpoch();
        noThreadHoldsTheEpoch();
        atLeastTwoEpochsLess();
        retiredByTheThreadThatDoesIt();
        theFourthScans();
        blocksOfOthersDoNotCount();
        blocksThatAreFreeDoNotCount();
        namedInSlot0OrSlot1();
        namedByTheThreadItself();
        freeAtOnce();
        Due.end();
    }

    /** "it gets to be known with the life that this block has then", not when NEXT was read. */
    private static void lifeWhenHereBecomesABlock() {
        SteppedList x = Lists.of(2, 1, 2);
        x.begin(3, 2, 1);
        Due.steps(x, 3, 2, 4, 5, 7, 10);
        x.begin(1, 0, 9);
        Due.steps(x, 1, 2, 4, 5, 6);
        // Both blocks are given free and taken again, in the same order.
        Lists.remove(x, 2, 2);
        Lists.insert(x, 2, 3);
        Lists.insert(x, 2, 4);
        Due.block(x, 1, 1, 3, 2, 0, 2, -1);
        Due.block(x, 2, 1, 4, 0, 0, 2, -1);
        Due.steps(x, 1, 4);
        Due.known(x, 1, 0, 2, 2, 0);
        Due.block(x, 1, 0, 3, 2, 0, 2, -1);
        Due.steps(x, 1, 5, 4, 7, 9, 0);
        Due.is("faults", x.faults(), 0);
    }

    /** "BACK becomes HERE (with the life that was known of it)", not with the life that it has. */
    private static void lifeWhenBackBecomesHere() {
        SteppedList x = Lists.of(2, 1);
        x.begin(1, 0, 9);
        Due.steps(x, 1, 2, 4, 5);
        Lists.remove(x, 2, 1);
        Lists.insert(x, 2, 2);
        Due.steps(x, 1, 4);
        Due.is("faults of READ", x.faults(), 1);
        Due.known(x, 1, 1, 0, 0, 0);
        Due.steps(x, 1, 7);
        Due.is("faults of CHECK behind it", x.faults(), 2);
    }

    /** CHECK looks at BACK: free, of another life, and neither. */
    private static void looksAtBackIn4() {
        for (int taken = 0; taken < 3; taken++) {
            SteppedList x = Lists.of(2, 1, 2);
            x.begin(1, 0, 9);
            Due.steps(x, 1, 2, 4, 5, 4);
            changeBlock1(x, taken);
            Due.steps(x, 1, taken == 0 ? 5 : 2);
            Due.is("faults", x.faults(), taken == 0 ? 0 : 1);
        }
    }

    /** Change 1: block 1 is given free; change 2: it is taken again besides. */
    private static void changeBlock1(SteppedList x, int change) {
        if (change > 0) {
            Lists.remove(x, 2, 1);
        }
        if (change > 1) {
            Lists.insert(x, 2, 31);
        }
        Due.is("state of block 1", x.block(1, 0), change == 1 ? 0 : 1);
        Due.is("life of block 1", x.block(1, 4), change == 2 ? 2 : 1);
    }

    /** CUT and UNHANG look at BACK. */
    private static void looksAtBackIn6And10() {
        for (int taken = 0; taken < 3; taken++) {
            SteppedList x = Lists.of(2, 1, 2);
            x.begin(3, 2, 2);
            Due.steps(x, 3, 2, 4, 5, 4, 5, 7, 10);
            x.begin(1, 0, 9);
            Due.steps(x, 1, 2, 4, 5, 4, 5, 6);
            changeBlock1(x, taken);
            Due.steps(x, 1, taken == 0 ? 4 : 2);
            Due.is("faults of CUT", x.faults(), taken == 0 ? 0 : 1);
            Due.steps(x, 3, 9);
            Due.is("faults of UNHANG", x.faults(), taken == 0 ? 0 : 2);
        }
    }

    /** HANG looks at BACK; when BACK leads to HERE in its new life, it hangs there. */
    private static void looksAtBackIn8() {
        for (int taken = 0; taken < 3; taken++) {
            SteppedList x = Lists.of(2, 1);
            x.begin(1, 1, 9);
            Due.steps(x, 1, 2, 4, 5, 4, 7, 8);
            changeBlock1(x, taken);
            Due.steps(x, 1, taken == 1 ? 2 : 9);
            Due.is("faults", x.faults(), taken == 0 ? 0 : 1);
            Due.is("has(9)", x.has(9), taken != 1);
        }
    }

    /** READ looks at HERE. */
    private static void looksAtHereIn5() {
        for (int taken = 0; taken < 3; taken++) {
            SteppedList x = Lists.of(2, 1);
            x.begin(1, 0, 1);
            Due.steps(x, 1, 2, 4, 5);
            changeBlock1(x, taken);
            Due.steps(x, 1, taken == 1 ? 6 : 7);
            Due.is("faults", x.faults(), taken == 0 ? 0 : 1);
        }
    }

    /** "and in 7 when REMOVE found it": neither FIND, nor INSERT, nor REMOVE that found nothing. */
    private static void looksAtHereIn7() {
        for (int operation = 0; operation < 3; operation++) {
            for (int key = 0; key < 2; key++) {
                for (int taken = 0; taken < 3; taken++) {
                    SteppedList x = Lists.of(2, 1);
                    x.begin(1, operation, key);
                    Due.steps(x, 1, 2, 4, 5, 7);
                    changeBlock1(x, taken);
                    x.step(1);
                    boolean fault = operation == 2 && key == 1 && taken > 0;
                    Due.is("faults of operation " + operation + " with key " + key, x.faults(),
                            fault ? 1 : 0);
                }
            }
        }
    }

    /** "BACK (if not 0)": the list itself is neither free nor of another life. */
    private static void noLookAtTheListItself() {
        SteppedList x = Lists.of(2, 1);
        x.begin(1, 2, 1);
        Due.steps(x, 1, 2, 4, 5, 7, 10);
        x.begin(2, 0, 9);
        Due.steps(x, 2, 2, 4, 5, 6, 4, 7);
        x.begin(3, 1, 9);
        Due.steps(x, 3, 2, 4, 7, 8, 9);
        Due.steps(x, 1, 9);
        Due.is("faults of CHECK, CUT, HANG and UNHANG at link 0", x.faults(), 0);
    }

    /** "a look at a block that is free, or whose life is another": both is still one look. */
    private static void freeAndOfAnotherLifeIsOneFault() {
        SteppedList x = Lists.of(2, 1);
        x.begin(1, 0, 1);
        Due.steps(x, 1, 2, 4, 5);
        Lists.remove(x, 2, 1);
        Lists.insert(x, 2, 1);
        Lists.remove(x, 2, 1);
        Due.block(x, 1, 0, 1, 0, 1, 2, -1);
        Due.steps(x, 1, 6);
        Due.is("faults", x.faults(), 1);
    }

    /** A retired block is not free, and its life stays: in schemes 0 and 1 nothing goes wrong. */
    private static void retiredBlocksAreNoFault() {
        for (int scheme = 0; scheme < 2; scheme++) {
            SteppedList x = Lists.of(scheme, 1, 2);
            x.begin(1, 0, 1);
            Lists.until(x, 1, 5);
            x.begin(3, 1, 9);
            Lists.until(x, 3, 5);
            x.step(3);
            Lists.until(x, 3, 4);
            Lists.remove(x, 2, 1);
            Due.states(x, 1, 2);
            Due.steps(x, 1, 6, 2);
            Due.steps(x, 3, 2);
            Due.is("faults in scheme " + scheme, x.faults(), 0);
        }
    }

    /** "SCHEME 0: with the EPOCH (0 at first) that there is", not the one that was announced. */
    private static void retiredWithTheEpochThatThereIs() {
        SteppedList x = Lists.of(0, 1, 2);
        Lists.remove(x, 1, 1);
        Due.block(x, 1, 2, 1, 2, 1, 1, 0);
        x.begin(1, 2, 2);
        Due.steps(x, 1, 2);
        x.advance();
        Due.says(x, 1, -1, -1, 0);
        x.finish(1);
        Due.block(x, 2, 2, 2, 0, 1, 1, 1);
    }

    /** "when all threads that announce something announce the EPOCH": each one alone holds it. */
    private static void eachThreadHoldsTheEpoch() {
        for (int t = 0; t < 4; t++) {
            SteppedList x = new SteppedList(0);
            x.begin(t, 0, 0);
            Due.steps(x, t, 2);
            Due.is("advance with the epoch announced", x.advance(), true);
            Due.is("advance with the one before announced", x.advance(), false);
            Due.is("epoch", x.epoch(), 1);
            x.finish(t);
            Due.is("advance with nothing announced", x.advance(), true);
            Due.is("epoch", x.epoch(), 2);
        }
    }

    /** The same when all announce the EPOCH, and when they began but announce nothing yet. */
    private static void noThreadHoldsTheEpoch() {
        SteppedList x = new SteppedList(0);
        for (int t = 0; t < 4; t++) {
            x.begin(t, 0, 0);
        }
        Due.is("advance when nobody announces", x.advance(), true);
        Due.is("advance when nobody announces still", x.advance(), true);
        for (int t = 0; t < 4; t++) {
            Due.steps(x, t, 2);
        }
        Due.is("advance when all announce", x.advance(), true);
        for (int t = 0; t < 3; t++) {
            x.finish(t);
        }
        Due.is("advance when one is behind", x.advance(), false);
        Due.is("epoch", x.epoch(), 3);
    }

    /** "that were retired with an epoch at least 2 less". */
    private static void atLeastTwoEpochsLess() {
        SteppedList x = Lists.of(0, 1, 2, 3, 4);
        Lists.remove(x, 0, 1);
        x.advance();
        Lists.remove(x, 0, 2);
        Due.states(x, 1, 2, 2, 1, 1);
        x.advance();
        Lists.remove(x, 0, 3);
        Due.states(x, 1, 0, 2, 2, 1);
        x.advance();
        Due.states(x, 1, 0, 0, 2, 1);
        x.advance();
        Due.states(x, 1, 0, 0, 0, 1);
        Due.block(x, 3, 0, 3, 4, 1, 1, -1);
    }

    /** "SCHEME 1: by the thread that does it", also when another one marked the block. */
    private static void retiredByTheThreadThatDoesIt() {
        SteppedList x = Lists.of(1, 1, 2);
        x.begin(2, 2, 1);
        Due.steps(x, 2, 2, 3, 4, 5, 7, 10);
        Lists.find(x, 3, 2);
        Due.block(x, 1, 2, 1, 2, 1, 1, 3);
        x.finish(2);
        Due.block(x, 1, 2, 1, 2, 1, 1, 3);
        Lists.remove(x, 0, 2);
        Due.block(x, 2, 2, 2, 0, 1, 1, 0);
        Due.is("scan(2)", x.scan(2), 0);
        Due.is("scan(3)", x.scan(3), 1);
        Due.is("scan(0)", x.scan(0), 1);
    }

    /** "if it is the fourth or more that this thread has retired and that is not free yet". */
    private static void theFourthScans() {
        SteppedList x = Lists.of(1, 1, 2, 3, 4, 5);
        x.begin(1, 0, 4);
        Lists.until(x, 1, 7);
        Due.says(x, 1, 3, 4, -1);
        Lists.remove(x, 0, 1);
        Lists.remove(x, 0, 2);
        Lists.remove(x, 0, 3);
        Due.states(x, 1, 2, 2, 2, 1, 1);
        Lists.remove(x, 0, 4);
        Due.states(x, 1, 0, 0, 2, 2, 1);
        // Three are retired then, and the fourth scans anew.
        Lists.remove(x, 0, 5);
        Due.states(x, 1, 0, 0, 2, 2, 2);
        x.finish(1);
        Lists.insert(x, 0, 6);
        Lists.remove(x, 0, 6);
        Due.states(x, 1, 2, 0, 0, 0, 0);
    }

    private static void blocksOfOthersDoNotCount() {
        SteppedList x = Lists.of(1, 1, 2, 3, 4, 5, 6);
        for (int key = 1; key <= 6; key++) {
            Lists.remove(x, key % 2, key);
        }
        Due.states(x, 1, 2, 2, 2, 2, 2, 2);
        Lists.insert(x, 2, 7);
        Lists.remove(x, 0, 7);
        Due.states(x, 1, 2, 0, 2, 0, 2, 0, 2);
    }

    private static void blocksThatAreFreeDoNotCount() {
        SteppedList x = Lists.of(1, 1, 2, 3, 4, 5, 6, 7);
        Lists.remove(x, 0, 1);
        Lists.remove(x, 0, 2);
        Lists.remove(x, 0, 3);
        Due.is("scan(0)", x.scan(0), 3);
        Lists.remove(x, 0, 4);
        Lists.remove(x, 0, 5);
        Lists.remove(x, 0, 6);
        Due.states(x, 1, 0, 0, 0, 2, 2, 2, 1);
        Lists.remove(x, 0, 7);
        Due.states(x, 1, 0, 0, 0, 0, 0, 0, 2);
    }

    /** "those of its own that no slot of any thread names become free". */
    private static void namedInSlot0OrSlot1() {
        for (int t = 1; t < 4; t++) {
            SteppedList x = Lists.of(1, 1, 2, 3, 4);
            x.begin(t, 0, 2);
            Lists.until(x, t, 7);
            Due.says(x, t, 1, 2, -1);
            Lists.remove(x, 0, 1);
            Lists.remove(x, 0, 2);
            Lists.remove(x, 0, 3);
            Due.is("scan(0) with blocks 1 and 2 named", x.scan(0), 1);
            Due.states(x, 1, 2, 2, 0, 1);
            x.finish(t);
            Due.is("scan(0) with nothing named", x.scan(0), 2);
            Due.states(x, 1, 0, 0, 0, 1);
        }
    }

    /** The thread's own slots name too: what it takes out stays until a later scan. */
    private static void namedByTheThreadItself() {
        SteppedList x = Lists.of(1, 1);
        x.begin(0, 2, 1);
        Due.steps(x, 0, 2, 3, 4, 5, 7, 10, 9);
        Due.says(x, 0, 1, -1, -1);
        Due.is("scan(0) before END", x.scan(0), 0);
        Due.states(x, 1, 2);
        Due.steps(x, 0, 0);
        Due.is("scan(0) after END", x.scan(0), 1);
        Due.states(x, 1, 0);
    }

    /** "SCHEME 2: it becomes free at once", by UNHANG and by CUT, and is taken at once again. */
    private static void freeAtOnce() {
        SteppedList x = Lists.of(2, 1, 2);
        x.begin(1, 2, 2);
        Due.steps(x, 1, 2, 4, 5, 4, 5, 7, 10, 9);
        Due.block(x, 2, 0, 2, 0, 1, 1, -1);
        x.begin(2, 2, 1);
        Due.steps(x, 2, 2, 4, 5, 7, 10);
        x.begin(3, 1, 5);
        Due.steps(x, 3, 2, 4, 5, 6, 4, 7);
        Due.block(x, 1, 0, 1, 0, 1, 1, -1);
        Due.steps(x, 3, 8);
        Due.block(x, 1, 1, 5, 0, 0, 2, -1);
    }
}
