import java.util.NoSuchElementException;

/** All that can be asked of an object, in one text: some 200 calls. */
final class Picture {
    private Picture() {
    }

    static String of(SteppedList x) {
        StringBuilder all = new StringBuilder();
        for (int t = 0; t < 4; t++) {
            all.append("thread ").append(t).append(": at ").append(x.at(t)).append(", known");
            for (int which = 0; which < 4; which++) {
                all.append(' ').append(x.known(t, which));
            }
            all.append(", says");
            for (int which = 0; which < 3; which++) {
                all.append(' ').append(x.says(t, which));
            }
            all.append(", result ").append(result(x, t)).append('\n');
        }
        for (int b = 0; b <= 20; b++) {
            all.append("block ").append(b).append(':');
            for (int what = 0; what < 6; what++) {
                all.append(' ').append(x.block(b, what));
            }
            all.append('\n');
        }
        return all.append(held(x)).toString();
    }

    private static String result(SteppedList x, int t) {
        try {
            return Integer.toString(x.result(t));
        } catch (NoSuchElementException e) {
            return "none";
        }
    }

    private static String held(SteppedList x) {
        StringBuilder all = new StringBuilder("keys");
        for (int key = 0; key < 32; key++) {
            all.append(x.has(key) ? " " + key : "");
        }
        return all.append(", size ").append(x.size()).append(", faults ").append(x.faults())
                .append(", epoch ").append(x.epoch()).append('\n').toString();
    }
}
