import java.util.NoSuchElementException;

public final class Promise03SignTest {
    public static void main(String[] args) {
        IndexSort x = new IndexSort();
        Check.dueThrow("sign(0, 97) with none", NoSuchElementException.class, () -> x.sign(0, 97));
        x.entry(0, -1);
        Check.dueThrow("sign(1, 97)", NoSuchElementException.class, () -> x.sign(1, 97));
        Check.dueThrow("sign(-1, 256): named first", NoSuchElementException.class, () -> x.sign(-1, 256));
        Check.dueThrow("sign(0, 256)", IllegalArgumentException.class, () -> x.sign(0, 256));
        Check.dueThrow("sign(0, -1)", IllegalArgumentException.class, () -> x.sign(0, -1));
        Check.due("sign(0, 0)", 1, () -> x.sign(0, 0));
        Check.due("sign(0, 255)", 2, () -> x.sign(0, 255));
        for (int k = 3; k <= 20; k++) {
            int due = k;
            Check.due("sign " + k, due, () -> x.sign(0, 'a'));
        }
        Check.dueThrow("the 21st", UnsupportedOperationException.class, () -> x.sign(0, 'a'));
        Check.dueThrow("the 21st, no sign", IllegalArgumentException.class, () -> x.sign(0, 256));
        x.entry(0, -1);
        Check.due("each entry has its own words", 1, () -> x.sign(1, 'b'));
        x.page(0, 1, 1);
        Check.same("the words", "\0\u00ff" + "a".repeat(18), Check.printed(x, "|%w||").substring(0, 20));
        Check.finish();
    }
}
