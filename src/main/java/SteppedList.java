/**
 * A sorted list of linked blocks on which four threads work step by step, without locks, and
 * three schemes by which blocks that were taken out are given free.
 *
 * <p>Nothing is made after the constructor: every call works on the same blocks and workers.
 */
public final class SteppedList {
    public static final int NONE = -1;
    public static final int FALSE = 0;
    public static final int TRUE = 1;
    public static final int NOROOM = 2;

    private static final int THREADS = 4;
    private static final int BLOCKS = 20;
    private static final int KEYS = 32;
    private static final int MOST_STEPS = 300;
    private static final int SCAN_FROM = 4;
    private static final int EPOCHS_KEPT = 2;

    private static final int BY_EPOCH = 0;
    private static final int BY_NAME = 1;
    private static final int AT_ONCE = 2;

    private static final int FIND = 0;
    private static final int INSERT = 1;
    private static final int REMOVE = 2;

    private static final int FREE = 0;
    private static final int IN_USE = 1;
    private static final int RETIRED = 2;

    private static final int IDLE = 0;
    private static final int START = 1;
    private static final int HEAD = 2;
    private static final int NAME = 3;
    private static final int CHECK = 4;
    private static final int READ = 5;
    private static final int CUT = 6;
    private static final int DO = 7;
    private static final int HANG = 8;
    private static final int END = 9;
    private static final int UNHANG = 10;

    private final int scheme;
    /** Number 0 is the list itself: only its link counts, and it is never marked. */
    private final Block[] blocks;
    private final Worker[] workers;
    private int currentEpoch;
    private int faultCount;

    public SteppedList(int scheme) {
        this.scheme = scheme == BY_NAME || scheme == AT_ONCE ? scheme : BY_EPOCH;
        blocks = new Block[BLOCKS + 1];
        for (int b = 0; b <= BLOCKS; b++) {
            blocks[b] = new Block();
        }
        workers = new Worker[THREADS];
        for (int t = 0; t < THREADS; t++) {
            workers[t] = new Worker(t);
        }
    }

    public void begin(int t, int operation, int key)
            throws IndexOutOfBoundsException, IllegalArgumentException, IllegalStateException {
        Worker w = workerOf(t);
        if (operation < FIND || operation > REMOVE) {
            throw new IllegalArgumentException("no such operation");
        }
        if (key < 0 || key >= KEYS) {
            throw new IllegalArgumentException("no such key");
        }
        if (w.before != IDLE) {
            throw new IllegalStateException("the thread is not idle");
        }
        w.forget();
        w.operation = operation;
        w.key = key;
        w.before = START;
    }

    public int step(int t) throws IndexOutOfBoundsException, IllegalStateException {
        Worker w = busyWorkerOf(t);
        perform(w);
        return w.before;
    }

    public int finish(int t) throws IndexOutOfBoundsException, IllegalStateException {
        Worker w = busyWorkerOf(t);
        int done = 0;
        while (done < MOST_STEPS && w.before != IDLE) {
            perform(w);
            done++;
        }
        return done;
    }

    public int result(int t) throws IndexOutOfBoundsException, java.util.NoSuchElementException {
        Worker w = workerOf(t);
        if (w.endedResult == NONE) {
            throw new java.util.NoSuchElementException("no operation ended yet");
        }
        return w.endedResult;
    }

    public int at(int t) throws IndexOutOfBoundsException {
        return workerOf(t).before;
    }

    public int known(int t, int which) throws IndexOutOfBoundsException {
        Worker w = workerOf(t);
        switch (which) {
            case 0:
                return w.back;
            case 1:
                return w.here;
            case 2:
                return w.next;
            case 3:
                return w.newBlock;
            default:
                throw new IndexOutOfBoundsException("no such thing is known");
        }
    }

    public int says(int t, int which) throws IndexOutOfBoundsException {
        Worker w = workerOf(t);
        switch (which) {
            case 0:
                return w.slot0;
            case 1:
                return w.slot1;
            case 2:
                return w.announced;
            default:
                throw new IndexOutOfBoundsException("no such thing is said");
        }
    }

    public boolean advance() throws UnsupportedOperationException {
        if (scheme != BY_EPOCH) {
            throw new UnsupportedOperationException("epochs are for scheme 0");
        }
        if (!allAnnounceCurrentEpoch()) {
            return false;
        }
        currentEpoch++;
        freeOldEpochs();
        return true;
    }

    public int scan(int t) throws IndexOutOfBoundsException, UnsupportedOperationException {
        Worker w = workerOf(t);
        if (scheme != BY_NAME) {
            throw new UnsupportedOperationException("scans are for scheme 1");
        }
        return freeUnnamed(w);
    }

    public int block(int b, int what) throws IndexOutOfBoundsException {
        if (b < 0 || b > BLOCKS) {
            throw new IndexOutOfBoundsException("no such block");
        }
        if (what < 0 || what > 5) {
            throw new IndexOutOfBoundsException("nothing such of a block");
        }
        if (b == 0 && what != 2) {
            return NONE;
        }
        return blocks[b].tell(what);
    }

    public int size() {
        int count = 0;
        int b = blocks[0].link;
        // Scheme 2 can tie the links into a ring, so the way is counted and not only its end.
        for (int gone = 0; gone < BLOCKS && b != 0; gone++) {
            if (!blocks[b].marked) {
                count++;
            }
            b = blocks[b].link;
        }
        return count;
    }

    public boolean has(int key) {
        int b = blocks[0].link;
        for (int gone = 0; gone < BLOCKS && b != 0; gone++) {
            if (!blocks[b].marked && blocks[b].key == key) {
                return true;
            }
            b = blocks[b].link;
        }
        return false;
    }

    public int faults() {
        return faultCount;
    }

    public int epoch() {
        return currentEpoch;
    }

    private Worker workerOf(int t) {
        if (t < 0 || t >= THREADS) {
            throw new IndexOutOfBoundsException("no such thread");
        }
        return workers[t];
    }

    private Worker busyWorkerOf(int t) {
        Worker w = workerOf(t);
        if (w.before == IDLE) {
            throw new IllegalStateException("the thread is idle");
        }
        return w;
    }

    private void perform(Worker w) {
        switch (w.before) {
            case START:
                startWork(w);
                break;
            case HEAD:
                goToHead(w);
                break;
            case NAME:
                nameHere(w);
                break;
            case CHECK:
                checkBack(w);
                break;
            case READ:
                readHere(w);
                break;
            case CUT:
                cutHere(w);
                break;
            case DO:
                doOperation(w);
                break;
            case HANG:
                hangNewBlock(w);
                break;
            case END:
                endWork(w);
                break;
            case UNHANG:
                unhangHere(w);
                break;
            default:
                break;
        }
    }

    private void startWork(Worker w) {
        if (scheme == BY_EPOCH) {
            w.announced = currentEpoch;
        }
        w.before = HEAD;
    }

    private void goToHead(Worker w) {
        w.back = 0;
        w.backLife = 0;
        moveHereTo(w, blocks[0].link);
    }

    private void nameHere(Worker w) {
        if (w.back != 0 && w.slot0 == w.back) {
            w.slot1 = w.here;
        } else {
            w.slot0 = w.here;
        }
        w.before = CHECK;
    }

    private void checkBack(Worker w) {
        lookAtBack(w);
        if (!blocks[w.back].leadsTo(w.here)) {
            w.before = HEAD;
        } else if (w.here == 0) {
            w.found = false;
            w.before = DO;
        } else {
            w.before = READ;
        }
    }

    private void readHere(Worker w) {
        lookAtHere(w);
        Block here = blocks[w.here];
        w.next = here.link;
        if (here.marked) {
            w.before = CUT;
        } else if (here.key >= w.key) {
            w.found = here.key == w.key;
            w.before = DO;
        } else {
            w.back = w.here;
            w.backLife = w.hereLife;
            moveHereTo(w, w.next);
        }
    }

    private void cutHere(Worker w) {
        if (takeOutHere(w)) {
            moveHereTo(w, w.next);
        } else {
            w.before = HEAD;
        }
    }

    private void doOperation(Worker w) {
        switch (w.operation) {
            case INSERT:
                prepareInsert(w);
                break;
            case REMOVE:
                markForRemoval(w);
                break;
            default:
                conclude(w, w.found ? TRUE : FALSE);
                break;
        }
    }

    private void prepareInsert(Worker w) {
        if (w.found) {
            giveNewBlockBack(w);
            conclude(w, FALSE);
            return;
        }
        if (w.newBlock == 0) {
            w.newBlock = takeFreeBlock();
        }
        if (w.newBlock == 0) {
            conclude(w, NOROOM);
            return;
        }
        Block added = blocks[w.newBlock];
        added.key = w.key;
        added.lead(w.here);
        w.before = HANG;
    }

    private void markForRemoval(Worker w) {
        if (!w.found) {
            conclude(w, FALSE);
            return;
        }
        lookAtHere(w);
        Block here = blocks[w.here];
        if (here.leadsTo(w.next)) {
            here.marked = true;
            w.before = UNHANG;
        } else {
            w.before = HEAD;
        }
    }

    private void hangNewBlock(Worker w) {
        lookAtBack(w);
        Block back = blocks[w.back];
        if (back.leadsTo(w.here)) {
            back.lead(w.newBlock);
            conclude(w, TRUE);
        } else {
            w.before = HEAD;
        }
    }

    private void unhangHere(Worker w) {
        // Whoever comes by later cuts a marked block out, so a failure here is no harm.
        takeOutHere(w);
        conclude(w, TRUE);
    }

    private void endWork(Worker w) {
        w.announced = NONE;
        w.slot0 = NONE;
        w.slot1 = NONE;
        w.endedResult = w.comingResult;
        w.before = IDLE;
    }

    /** The result shows only when the operation has ended, so it waits for step 9. */
    private void conclude(Worker w, int result) {
        w.comingResult = result;
        w.before = END;
    }

    /** HERE becomes a block, with the life that it has now, and the worker goes on from there. */
    private void moveHereTo(Worker w, int b) {
        w.here = b;
        w.hereLife = blocks[b].life;
        w.before = scheme == BY_NAME && b != 0 ? NAME : CHECK;
    }

    /** Links BACK past HERE to NEXT and retires HERE, if BACK still leads to it. */
    private boolean takeOutHere(Worker w) {
        lookAtBack(w);
        Block back = blocks[w.back];
        if (!back.leadsTo(w.here)) {
            return false;
        }
        back.lead(w.next);
        retireHere(w);
        return true;
    }

    private void lookAtBack(Worker w) {
        if (w.back != 0) {
            countFault(blocks[w.back], w.backLife);
        }
    }

    private void lookAtHere(Worker w) {
        countFault(blocks[w.here], w.hereLife);
    }

    private void countFault(Block seen, int knownLife) {
        if (seen.state == FREE || seen.life != knownLife) {
            faultCount++;
        }
    }

    private int takeFreeBlock() {
        for (int b = 1; b <= BLOCKS; b++) {
            if (blocks[b].state == FREE) {
                blocks[b].state = IN_USE;
                blocks[b].life++;
                return b;
            }
        }
        return 0;
    }

    private void giveNewBlockBack(Worker w) {
        if (w.newBlock != 0) {
            blocks[w.newBlock].setFree();
            w.newBlock = 0;
        }
    }

    private void retireHere(Worker w) {
        Block out = blocks[w.here];
        if (scheme == AT_ONCE) {
            out.setFree();
        } else if (scheme == BY_EPOCH) {
            out.retireWith(currentEpoch);
        } else {
            out.retireWith(w.number);
            if (countRetiredBy(w) >= SCAN_FROM) {
                freeUnnamed(w);
            }
        }
    }

    private boolean allAnnounceCurrentEpoch() {
        for (int t = 0; t < THREADS; t++) {
            int announced = workers[t].announced;
            if (announced != NONE && announced != currentEpoch) {
                return false;
            }
        }
        return true;
    }

    private void freeOldEpochs() {
        for (int b = 1; b <= BLOCKS; b++) {
            Block old = blocks[b];
            if (old.state == RETIRED && old.retiredWith <= currentEpoch - EPOCHS_KEPT) {
                old.setFree();
            }
        }
    }

    private int countRetiredBy(Worker w) {
        int count = 0;
        for (int b = 1; b <= BLOCKS; b++) {
            if (isRetiredBy(w, b)) {
                count++;
            }
        }
        return count;
    }

    private int freeUnnamed(Worker w) {
        int freed = 0;
        for (int b = 1; b <= BLOCKS; b++) {
            if (isRetiredBy(w, b) && !isNamed(b)) {
                blocks[b].setFree();
                freed++;
            }
        }
        return freed;
    }

    private boolean isRetiredBy(Worker w, int b) {
        return blocks[b].state == RETIRED && blocks[b].retiredWith == w.number;
    }

    private boolean isNamed(int b) {
        for (int t = 0; t < THREADS; t++) {
            if (workers[t].slot0 == b || workers[t].slot1 == b) {
                return true;
            }
        }
        return false;
    }

    private static final class Block {
        private int state = FREE;
        private int key;
        private int link;
        private boolean marked;
        private int life;
        /** The epoch in scheme 0, the thread in scheme 1; NONE unless the block is retired. */
        private int retiredWith = NONE;

        private boolean leadsTo(int b) {
            return link == b && !marked;
        }

        private void lead(int b) {
            link = b;
            marked = false;
        }

        private void retireWith(int epochOrThread) {
            state = RETIRED;
            retiredWith = epochOrThread;
        }

        private void setFree() {
            state = FREE;
            retiredWith = NONE;
        }

        private int tell(int what) {
            switch (what) {
                case 0:
                    return state;
                case 1:
                    return key;
                case 2:
                    return link;
                case 3:
                    return marked ? 1 : 0;
                case 4:
                    return life;
                default:
                    return retiredWith;
            }
        }
    }

    private static final class Worker {
        private final int number;
        /** The step before which the thread is. */
        private int before = IDLE;
        private int operation;
        private int key;
        private int back;
        private int backLife;
        private int here;
        private int hereLife;
        private int next;
        private boolean found;
        private int newBlock;
        private int comingResult = NONE;
        private int endedResult = NONE;
        private int slot0 = NONE;
        private int slot1 = NONE;
        private int announced = NONE;

        private Worker(int number) {
            this.number = number;
        }

        private void forget() {
            back = 0;
            backLife = 0;
            here = 0;
            hereLife = 0;
            next = 0;
            found = false;
            newBlock = 0;
        }
    }
}
