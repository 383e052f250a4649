import java.util.NoSuchElementException;

public final class Promise01NewObjectTest {
    public static void main(String[] args) {
        IndexSort x = new IndexSort();
        Check.due("run()", 0, () -> x.run());
        Check.due("told(-1, 0)", 0, () -> x.told(-1, 0));
        Check.dueThrow("row(0, 0)", IndexOutOfBoundsException.class, () -> x.row(0, 0));
        Check.dueThrow("compare(0, 0)", NoSuchElementException.class, () -> x.compare(0, 0));
        Check.dueThrow("at(0)", ArrayIndexOutOfBoundsException.class, () -> x.at(0));
        Check.due("print() without a style", -1, () -> x.print());
        Check.due("style('a') is the first sign", 1, () -> x.style('a'));
        Check.due("rule(0, true) was on", 1, () -> x.rule(0, true));
        Check.due("rule(1, true) was on", 1, () -> x.rule(1, true));
        Check.due("the first entry", 0, () -> x.entry(0, -1));

        IndexSort y = new IndexSort();
        Check.due("another object has no entries", 0, () -> y.run());
        Check.due("another object has no style", -1, () -> y.print());
        Check.finish();
    }
}
