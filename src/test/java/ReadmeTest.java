/** The example of README.md, with the answers that its remarks tell. */
public final class ReadmeTest {
    public static void main(String[] args) {
        SteppedList list = new SteppedList(0);
        list.begin(0, 1, 5);
        Due.is("step(0)", list.step(0), 2);
        Due.is("finish(0)", list.finish(0), 5);
        Due.is("result(0)", list.result(0), SteppedList.TRUE);
        list.begin(1, 2, 5);
        list.begin(2, 0, 5);
        Due.is("step(2), the first", list.step(2), 2);
        Due.is("step(2), the second", list.step(2), 4);
        Due.is("finish(1)", list.finish(1), 7);
        Due.is("has(5)", list.has(5), false);
        Due.is("block(1, 0)", list.block(1, 0), 2);
        Due.is("known(2, 1)", list.known(2, 1), 1);
        Due.is("advance(), the first", list.advance(), true);
        Due.is("advance(), the second", list.advance(), false);
        Due.is("finish(2)", list.finish(2), 5);
        Due.is("result(2)", list.result(2), SteppedList.FALSE);
        Due.is("advance(), the third", list.advance(), true);
        Due.is("block(1, 0) at the end", list.block(1, 0), 0);
        Due.is("faults()", list.faults(), 0);
        Due.end();
    }
}
