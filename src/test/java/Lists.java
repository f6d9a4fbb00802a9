/** Lists to begin a test with, and ways to go on with them. */
final class Lists {
    private Lists() {
    }

    /** Thread 0 inserts the keys; given in rising order, they come to stand in blocks 1, 2, 3 .. */
    static SteppedList of(int scheme, int... keys) {
        SteppedList x = new SteppedList(scheme);
        for (int key : keys) {
            insert(x, 0, key);
        }
        return x;
    }

    static int find(SteppedList x, int t, int key) {
        return whole(x, t, 0, key);
    }

    static int insert(SteppedList x, int t, int key) {
        return whole(x, t, 1, key);
    }

    static int remove(SteppedList x, int t, int key) {
        return whole(x, t, 2, key);
    }

    /** Steps until the thread is before one; a test that never comes there goes on and fails. */
    static void until(SteppedList x, int t, int step) {
        for (int i = 0; i < 100 && x.at(t) != step; i++) {
            x.step(t);
        }
    }

    private static int whole(SteppedList x, int t, int operation, int key) {
        x.begin(t, operation, key);
        x.finish(t);
        return x.result(t);
    }
}
