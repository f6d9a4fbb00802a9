/** Promises 9 to 15: how blocks are given free, what the list holds, and the counts. */
public final class BlocksTest {
    public static void main(String[] args) {
        advanceIsHeldUp();
        advanceFreesWhatIsOldEnough();
        advanceThrows();
        scanFreesOwnAndUnnamed();
        scanFromTheFourthOn();
        scanAtMoreThanFour();
        scanThrows();
        lastBlockIsGivenFree();
        freedAtOnce();
        leastFreeBlockIsTaken();
        blockOfTheListItself();
        blockThrows();
        markedBlocksAreNotCounted();
        ringIsGoneAlong20Times();
        hasOtherKeys();
        faultsAtFreeBlocks();
        faultsAtBlocksOfAnotherLife();
        looksThatAreNone();
        faultsOfTheOtherSchemes();
        faultGoesOn();
        epochOfOtherSchemes();
        Due.end();
    }

    private static SteppedList withKeys(int scheme, int from, int to) {
        SteppedList x = new SteppedList(scheme);
        for (int key = from; key <= to; key++) {
            run(x, 0, 1, key);
        }
        return x;
    }

    private static void run(SteppedList x, int t, int operation, int key) {
        x.begin(t, operation, key);
        x.finish(t);
    }

    private static void advanceIsHeldUp() {
        SteppedList x = new SteppedList(0);
        x.begin(0, 0, 0);
        Due.is("advance before START", x.advance(), true);
        Due.steps(x, 0, 2);
        Due.is("advance with the epoch announced", x.advance(), true);
        Due.is("epoch", x.epoch(), 2);
        Due.is("advance with an older one announced", x.advance(), false);
        Due.is("epoch after it", x.epoch(), 2);
        x.begin(3, 0, 0);
        Due.steps(x, 3, 2);
        Due.steps(x, 0, 4, 7, 9);
        Due.is("advance before END", x.advance(), false);
        Due.steps(x, 0, 0);
        Due.is("advance after END", x.advance(), true);
        Due.is("advance with thread 3 behind", x.advance(), false);
        Due.steps(x, 3, 4, 7, 9, 0);
        Due.is("advance with nobody", x.advance(), true);
        Due.is("epoch at last", x.epoch(), 4);
    }

    private static void advanceFreesWhatIsOldEnough() {
        SteppedList x = withKeys(0, 1, 4);
        run(x, 1, 2, 1);
        Due.block(x, 1, 2, 1, 2, 1, 1, 0);
        x.advance();
        Due.states(x, 1, 2, 1, 1, 1);
        run(x, 2, 2, 2);
        run(x, 2, 2, 3);
        Due.block(x, 2, 2, 2, 3, 1, 1, 1);
        x.advance();
        Due.states(x, 1, 0, 2, 2, 1, 0);
        Due.block(x, 1, 0, 1, 2, 1, 1, -1);
        x.begin(0, 0, 0);
        Due.steps(x, 0, 2);
        x.advance();
        Due.states(x, 1, 0, 0, 0, 1, 0);
        run(x, 1, 2, 4);
        Due.block(x, 4, 2, 4, 0, 1, 1, 3);
        // What can't be advanced frees nothing.
        x.advance();
        x.advance();
        Due.states(x, 4, 2);
        x.finish(0);
        x.advance();
        Due.states(x, 4, 2);
        x.advance();
        Due.block(x, 4, 0, 4, 0, 1, 1, -1);
    }

    private static void advanceThrows() {
        for (int scheme = 1; scheme < 3; scheme++) {
            SteppedList x = new SteppedList(scheme);
            Due.thrown("advance in scheme " + scheme, UnsupportedOperationException.class,
                    () -> x.advance());
            Due.is("epoch after it", x.epoch(), 0);
        }
    }

    private static void scanFreesOwnAndUnnamed() {
        SteppedList x = withKeys(1, 1, 5);
        run(x, 2, 2, 1);
        run(x, 2, 2, 2);
        run(x, 3, 2, 4);
        Due.block(x, 1, 2, 1, 2, 1, 1, 2);
        Due.block(x, 4, 2, 4, 5, 1, 1, 3);
        Due.is("scan of a thread that retired nothing", x.scan(0), 0);
        Due.states(x, 1, 2, 2, 1, 2, 1);
        Due.is("scan(2)", x.scan(2), 2);
        Due.states(x, 1, 0, 0, 1, 2, 1);
        Due.block(x, 2, 0, 2, 3, 1, 1, -1);
        Due.is("scan(2) again", x.scan(2), 0);
        Due.is("scan(3)", x.scan(3), 1);
        Due.states(x, 1, 0, 0, 1, 0, 1);
    }

    private static void scanFromTheFourthOn() {
        SteppedList x = withKeys(1, 1, 5);
        x.begin(1, 0, 2);
        Due.steps(x, 1, 2, 3, 4, 5, 3, 4);
        Due.says(x, 1, 1, 2, -1);
        run(x, 0, 2, 2);
        run(x, 0, 2, 3);
        run(x, 0, 2, 4);
        Due.states(x, 1, 1, 2, 2, 2, 1);
        x.begin(0, 2, 5);
        Due.steps(x, 0, 2, 3, 4, 5, 3, 4, 5, 7, 10, 9);
        // Thread 1 names block 2, and thread 0 itself still names block 5.
        Due.states(x, 1, 1, 2, 0, 0, 2);
        Due.steps(x, 0, 0);
        Due.is("scan(0) after END", x.scan(0), 1);
        Due.states(x, 1, 1, 2, 0, 0, 0);
        Due.is("scan(1) of what thread 0 retired", x.scan(1), 0);
        x.finish(1);
        Due.is("scan(0) when nobody names", x.scan(0), 1);
        Due.states(x, 1, 1, 0, 0, 0, 0);
    }

    private static void scanAtMoreThanFour() {
        SteppedList x = withKeys(1, 1, 6);
        x.begin(1, 0, 3);
        Due.steps(x, 1, 2, 3, 4, 5, 3, 4, 5, 3, 4);
        Due.says(x, 1, 3, 2, -1);
        x.begin(2, 0, 5);
        Due.steps(x, 2, 2, 3, 4, 5, 3, 4, 5, 3, 4, 5, 3, 4, 5, 3, 4);
        Due.says(x, 2, 5, 4, -1);
        for (int key = 2; key <= 6; key++) {
            run(x, 0, 2, key);
        }
        Due.states(x, 1, 1, 2, 2, 2, 2, 2);
        x.finish(1);
        run(x, 0, 1, 7);
        Due.states(x, 7, 1);
        run(x, 0, 2, 7);
        Due.states(x, 1, 1, 0, 0, 2, 2, 0, 2);
    }

    private static void scanThrows() {
        for (int scheme = 0; scheme < 3; scheme++) {
            SteppedList x = new SteppedList(scheme);
            for (int t : new int[] {-1, 4, Integer.MAX_VALUE, Integer.MIN_VALUE}) {
                Due.thrown("scan(" + t + ")", IndexOutOfBoundsException.class, () -> x.scan(t));
            }
        }
        for (int scheme = 0; scheme < 3; scheme += 2) {
            SteppedList x = new SteppedList(scheme);
            for (int t = 0; t < 4; t++) {
                int thread = t;
                Due.thrown("scan in scheme " + scheme, UnsupportedOperationException.class,
                        () -> x.scan(thread));
            }
        }
    }

    private static void lastBlockIsGivenFree() {
        SteppedList x = withKeys(0, 1, 20);
        run(x, 1, 2, 20);
        x.advance();
        x.advance();
        Due.block(x, 20, 0, 20, 0, 1, 1, -1);
        SteppedList y = withKeys(1, 1, 20);
        for (int key = 17; key <= 20; key++) {
            run(y, 1, 2, key);
        }
        Due.states(y, 16, 1, 0, 0, 0, 2);
        Due.is("scan(1) of block 20", y.scan(1), 1);
        Due.block(y, 20, 0, 20, 0, 1, 1, -1);
    }

    private static void freedAtOnce() {
        SteppedList x = withKeys(2, 1, 2);
        x.begin(0, 2, 1);
        Due.steps(x, 0, 2, 4, 5, 7, 10);
        Due.block(x, 1, 1, 1, 2, 1, 1, -1);
        Due.steps(x, 0, 9);
        Due.block(x, 1, 0, 1, 2, 1, 1, -1);
        Due.is("link 0", x.block(0, 2), 2);
        // CUT retires too.
        x.begin(1, 2, 2);
        Due.steps(x, 1, 2, 4, 5, 7, 10);
        run(x, 2, 0, 9);
        Due.block(x, 2, 0, 2, 0, 1, 1, -1);
    }

    private static void leastFreeBlockIsTaken() {
        SteppedList x = withKeys(2, 1, 20);
        Due.is("size", x.size(), 20);
        run(x, 1, 2, 14);
        run(x, 1, 2, 3);
        run(x, 1, 2, 20);
        run(x, 1, 1, 30);
        Due.block(x, 3, 1, 30, 0, 0, 2, -1);
        run(x, 1, 1, 0);
        Due.block(x, 14, 1, 0, 1, 0, 2, -1);
        run(x, 1, 1, 31);
        Due.block(x, 20, 1, 31, 0, 0, 2, -1);
        run(x, 1, 1, 14);
        Due.is("INSERT without room", x.result(1), 2);
        Due.is("new block without room", x.known(1, 3), 0);
        Due.is("size", x.size(), 20);
    }

    private static void blockOfTheListItself() {
        SteppedList x = withKeys(0, 1, 2);
        Due.block(x, 0, -1, -1, 1, -1, -1, -1);
        run(x, 0, 1, 0);
        Due.block(x, 0, -1, -1, 3, -1, -1, -1);
    }

    private static void blockThrows() {
        SteppedList x = new SteppedList(0);
        for (int b : new int[] {-1, 21, Integer.MAX_VALUE, Integer.MIN_VALUE}) {
            Due.thrown("block(" + b + ", 2)", IndexOutOfBoundsException.class,
                    () -> x.block(b, 2));
        }
        for (int what : new int[] {-1, 6, Integer.MAX_VALUE, Integer.MIN_VALUE}) {
            for (int b : new int[] {0, 1, 20}) {
                Due.thrown("block(" + b + ", " + what + ")", IndexOutOfBoundsException.class,
                        () -> x.block(b, what));
            }
        }
    }

    private static void markedBlocksAreNotCounted() {
        SteppedList x = withKeys(0, 1, 3);
        Due.is("size", x.size(), 3);
        x.begin(1, 2, 2);
        Due.steps(x, 1, 2, 4, 5, 4, 5, 7);
        Due.is("has(2) before DO", x.has(2), true);
        Due.steps(x, 1, 10);
        Due.is("size with a marked block between", x.size(), 2);
        Due.is("has(1)", x.has(1), true);
        Due.is("has(2) when it is marked", x.has(2), false);
        Due.is("has(3) behind it", x.has(3), true);
        x.finish(1);
        Due.is("size after it", x.size(), 2);
        // A new block counts from HANG on.
        x.begin(2, 1, 0);
        Due.steps(x, 2, 2, 4, 5, 7, 8);
        Due.is("size before HANG", x.size(), 2);
        Due.is("has(0) before HANG", x.has(0), false);
        Due.steps(x, 2, 9);
        Due.is("size after HANG", x.size(), 3);
        Due.is("has(0) after HANG", x.has(0), true);
    }

    /** In scheme 2 thread 3 hangs a block that is in the list already behind the one after it. */
    private static void ringIsGoneAlong20Times() {
        SteppedList x = new SteppedList(2);
        run(x, 0, 1, 2);
        run(x, 0, 1, 0);
        x.begin(2, 2, 0);
        Due.steps(x, 2, 2, 4, 5, 7, 10);
        // Cuts block 2 and takes it again, for 1, before block 1.
        Due.whole(x, 0, 1, 1, 10, 1);
        Due.block(x, 2, 1, 1, 1, 0, 2, -1);
        x.begin(1, 2, 2);
        Due.steps(x, 1, 2, 4, 5, 4, 5, 7, 10);
        // Cuts block 1 and takes it again, for 2, to be hung behind block 2.
        x.begin(3, 1, 2);
        Due.steps(x, 3, 2, 4, 5, 4, 5, 6, 4, 7, 8);
        Due.known(x, 3, 2, 0, 0, 1);
        // Takes block 2 for the one that it marked, so link 0 says block 1, which is not hung yet.
        Due.steps(x, 2, 9, 0);
        Due.block(x, 0, -1, -1, 1);
        Due.states(x, 1, 1, 0);
        Due.whole(x, 2, 1, 3, 8, 1);
        Due.is("faults before the ring", x.faults(), 0);
        Due.steps(x, 3, 9, 0);
        Due.is("faults of HANG at another life", x.faults(), 1);
        Due.block(x, 1, 1, 2, 2, 0, 2, -1);
        Due.block(x, 2, 1, 3, 1, 0, 3, -1);
        Due.is("size of a ring", x.size(), 20);
        Due.is("has(3) in a ring", x.has(3), true);
        Due.is("has(9) in a ring", x.has(9), false);
        x.begin(0, 2, 3);
        Due.steps(x, 0, 2, 4, 5, 4, 5, 7, 10);
        Due.is("size of a ring, half of it marked", x.size(), 10);
        Due.is("has(3) in a ring when it is marked", x.has(3), false);
        Due.is("has(2) in a ring", x.has(2), true);
    }

    private static void hasOtherKeys() {
        SteppedList x = withKeys(0, 0, 0);
        Due.is("has(0)", x.has(0), true);
        for (int key : new int[] {-1, 1, 31, 32, Integer.MAX_VALUE, Integer.MIN_VALUE}) {
            Due.is("has(" + key + ")", x.has(key), false);
        }
    }

    private static void faultsAtFreeBlocks() {
        // CHECK looks at BACK.
        SteppedList check = withKeys(2, 1, 2);
        check.begin(1, 0, 9);
        Due.steps(check, 1, 2, 4, 5, 4);
        run(check, 2, 2, 1);
        Due.steps(check, 1, 2);
        Due.is("faults of CHECK", check.faults(), 1);
        // READ looks at HERE; CUT at link 0 is no look.
        SteppedList read = withKeys(2, 1, 1);
        read.begin(1, 0, 1);
        Due.steps(read, 1, 2, 4, 5);
        run(read, 2, 2, 1);
        Due.steps(read, 1, 6, 2);
        Due.is("faults of READ", read.faults(), 1);
        // CUT looks at BACK.
        SteppedList cut = withKeys(2, 1, 2);
        cut.begin(3, 2, 2);
        Due.steps(cut, 3, 2, 4, 5, 4, 5, 7, 10);
        cut.begin(1, 0, 2);
        Due.steps(cut, 1, 2, 4, 5, 4, 5, 6);
        run(cut, 2, 2, 1);
        Due.steps(cut, 1, 2);
        Due.is("faults of CUT", cut.faults(), 1);
        // UNHANG looks at BACK.
        Due.steps(cut, 3, 9);
        Due.is("faults of UNHANG", cut.faults(), 2);
        Due.states(cut, 1, 0, 1);
        // DO of REMOVE looks at HERE when it was found.
        SteppedList remove = withKeys(2, 1, 1);
        remove.begin(1, 2, 1);
        Due.steps(remove, 1, 2, 4, 5, 7);
        run(remove, 2, 2, 1);
        Due.steps(remove, 1, 2);
        Due.is("faults of DO", remove.faults(), 1);
        Due.is("REMOVE goes on", remove.finish(1), 4);
        Due.is("REMOVE of what is gone", remove.result(1), 0);
        // HANG looks at BACK.
        SteppedList hang = withKeys(2, 1, 1);
        hang.begin(1, 1, 5);
        Due.steps(hang, 1, 2, 4, 5, 4, 7, 8);
        run(hang, 2, 2, 1);
        Due.steps(hang, 1, 2);
        Due.is("faults of HANG", hang.faults(), 1);
    }

    private static void faultsAtBlocksOfAnotherLife() {
        SteppedList check = withKeys(2, 1, 2);
        check.begin(1, 0, 9);
        Due.steps(check, 1, 2, 4, 5, 4);
        run(check, 2, 2, 1);
        run(check, 2, 1, 8);
        Due.block(check, 1, 1, 8, 0, 0, 2, -1);
        Due.steps(check, 1, 2);
        Due.is("faults of CHECK at another life", check.faults(), 1);
        // The block is known with the life that it has by now, so nothing more goes wrong.
        Due.is("finish after a fault", check.finish(1), 8);
        Due.is("faults after it", check.faults(), 1);
        SteppedList read = withKeys(2, 1, 1);
        read.begin(1, 0, 1);
        Due.steps(read, 1, 2, 4, 5);
        run(read, 2, 2, 1);
        run(read, 2, 1, 1);
        Due.steps(read, 1, 7, 9, 0);
        Due.is("faults of READ at another life", read.faults(), 1);
        Due.is("FIND in spite of a fault", read.result(1), 1);
        SteppedList remove = withKeys(2, 1, 1);
        remove.begin(1, 2, 1);
        Due.steps(remove, 1, 2, 4, 5, 7);
        run(remove, 2, 2, 1);
        run(remove, 2, 1, 6);
        // Key 6 is taken out by a REMOVE of 1: that is what goes wrong.
        Due.steps(remove, 1, 10, 9, 0);
        Due.is("faults of DO at another life", remove.faults(), 1);
        Due.is("REMOVE in spite of a fault", remove.result(1), 1);
        Due.is("has(6) after REMOVE of 1", remove.has(6), false);
    }

    private static void looksThatAreNone() {
        // FIND and INSERT do not look at HERE in DO, and REMOVE only if it was found.
        for (int operation = 0; operation < 2; operation++) {
            SteppedList x = withKeys(2, 1, 1);
            x.begin(1, operation, 1);
            Due.steps(x, 1, 2, 4, 5, 7);
            run(x, 2, 2, 1);
            Due.steps(x, 1, 9, 0);
            Due.is("faults of DO of operation " + operation, x.faults(), 0);
            Due.is("result of operation " + operation, x.result(1), 1 - operation);
        }
        SteppedList x = withKeys(2, 1, 1);
        x.begin(1, 2, 0);
        Due.steps(x, 1, 2, 4, 5, 7);
        run(x, 2, 2, 1);
        Due.steps(x, 1, 9, 0);
        Due.is("faults of DO that found nothing", x.faults(), 0);
        // CHECK at link 0 does not look at HERE.
        SteppedList head = withKeys(2, 1, 1);
        head.begin(1, 0, 1);
        Due.steps(head, 1, 2, 4);
        run(head, 2, 2, 1);
        Due.steps(head, 1, 2);
        Due.is("faults of CHECK at link 0", head.faults(), 0);
    }

    private static void faultsOfTheOtherSchemes() {
        for (int scheme = 0; scheme < 2; scheme++) {
            SteppedList x = withKeys(scheme, 1, 2);
            x.begin(1, 2, 2);
            while (x.known(1, 0) == 0 || x.at(1) != 4) {
                x.step(1);
            }
            run(x, 2, 2, 1);
            Due.states(x, 1, 2, 1);
            Due.steps(x, 1, 2);
            Due.is("faults at a retired block in scheme " + scheme, x.faults(), 0);
        }
    }

    /** BACK is a block of another life, but leads to HERE: CHECK goes on as if all was well. */
    private static void faultGoesOn() {
        SteppedList x = withKeys(2, 1, 2);
        x.begin(1, 0, 2);
        Due.steps(x, 1, 2, 4, 5, 4);
        run(x, 2, 2, 1);
        run(x, 2, 1, 0);
        Due.block(x, 1, 1, 0, 2, 0, 2, -1);
        Due.steps(x, 1, 5);
        Due.is("faults", x.faults(), 1);
        Due.steps(x, 1, 7, 9, 0);
        Due.is("faults", x.faults(), 1);
        Due.is("FIND 2", x.result(1), 1);
    }

    private static void epochOfOtherSchemes() {
        for (int scheme = 0; scheme < 3; scheme++) {
            SteppedList x = withKeys(scheme, 1, 3);
            run(x, 0, 2, 2);
            Due.is("epoch without advance", x.epoch(), 0);
        }
        SteppedList x = new SteppedList(0);
        for (int e = 1; e <= 400; e++) {
            x.advance();
            Due.is("epoch", x.epoch(), e);
        }
    }
}
