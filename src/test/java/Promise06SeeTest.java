import java.util.NoSuchElementException;

public final class Promise06SeeTest {
    public static void main(String[] args) {
        IndexSort x = new IndexSort();
        for (int e = 0; e < 8; e++) {
            Check.top(x, "" + (char) ('a' + e));
        }
        Check.dueThrow("see(8, 0)", NoSuchElementException.class, () -> x.see(8, 0));
        Check.dueThrow("see(0, 8)", NoSuchElementException.class, () -> x.see(0, 8));
        Check.dueThrow("see(-1, 0)", NoSuchElementException.class, () -> x.see(-1, 0));
        Check.dueThrow("see(0, -1)", NoSuchElementException.class, () -> x.see(0, -1));
        Check.due("itself", 0, () -> x.see(0, 0));
        Check.due("see(0, 3)", 1, () -> x.see(0, 3));
        Check.due("told already", 0, () -> x.see(0, 3));
        Check.due("the other way round", 1, () -> x.see(3, 0));
        Check.due("how many", 1, () -> x.row(0, 3));
        for (int e = 4; e < 8; e++) {
            int other = e;
            Check.due("see(0, " + e + ")", 1, () -> x.see(0, other));
        }
        Check.dueThrow("the sixth", UnsupportedOperationException.class, () -> x.see(0, 1));
        Check.dueThrow("no entry: named first", NoSuchElementException.class, () -> x.see(0, 8));
        Check.dueThrow("it has 5, told already or not", UnsupportedOperationException.class, () -> x.see(0, 3));
        Check.due("nothing has changed", 5, () -> x.row(0, 3));
        Check.due("another one has its own", 1, () -> x.see(1, 0));
        Check.finish();
    }
}
