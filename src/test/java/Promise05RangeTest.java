import java.util.NoSuchElementException;

public final class Promise05RangeTest {
    public static void main(String[] args) {
        IndexSort x = new IndexSort();
        Check.dueThrow("range with none", NoSuchElementException.class, () -> x.range(0, 1, false));
        x.entry(0, -1);
        Check.dueThrow("range(1, 0, ..): named first", NoSuchElementException.class, () -> x.range(1, 0, false));
        Check.dueThrow("range(0, 0, false)", IllegalArgumentException.class, () -> x.range(0, 0, false));
        Check.dueThrow("range(0, 0, true)", IllegalArgumentException.class, () -> x.range(0, 0, true));
        Check.dueThrow("range(0, 100000, false)", IllegalArgumentException.class, () -> x.range(0, 100000, false));
        Check.dueThrow("range(0, 100000, true)", IllegalArgumentException.class, () -> x.range(0, 100000, true));
        Check.due("none has begun", 0, () -> x.range(0, 5, true));
        Check.due("begins", 1, () -> x.range(0, 5, false));
        Check.due("has begun already", 0, () -> x.range(0, 6, false));
        Check.same("not ended it is a page", "1:5-5", Check.locators(x, 0));
        Check.due("before it began", 0, () -> x.range(0, 4, true));
        Check.due("ends where it began", 1, () -> x.range(0, 5, true));
        Check.due("ended already", 0, () -> x.range(0, 6, true));
        Check.due("the next one begins", 1, () -> x.range(0, 1, false));
        Check.due("and ends at the last page", 1, () -> x.range(0, 99999, true));
        Check.same("all pages", "1:1-99999", Check.locators(x, 0));
        Check.due("two ranges and a page", 3, () -> x.page(0, 1, 3));
        ownRangeOfEach();
        twentyAtMost();
        Check.finish();
    }

    private static void ownRangeOfEach() {
        IndexSort x = new IndexSort();
        Check.top(x, "a");
        Check.top(x, "a");
        Check.due("begins at 0", 1, () -> x.range(0, 5, false));
        Check.due("none has begun at the same one", 0, () -> x.range(1, 9, true));
        Check.due("begins at the same one too", 1, () -> x.range(1, 20, false));
        Check.due("ends at 0", 1, () -> x.range(0, 6, true));
        Check.same("joined", "1:5-6 1:20-20", Check.locators(x, 0));
    }

    private static void twentyAtMost() {
        IndexSort x = new IndexSort();
        x.entry(0, -1);
        for (int k = 1; k <= 19; k++) {
            x.page(0, 1, 2 * k);
        }
        Check.due("the 20th begins", 1, () -> x.range(0, 90, false));
        Check.due("one that has begun already does not begin", 0, () -> x.range(0, 95, false));
        Check.due("it ends all the same", 1, () -> x.range(0, 91, true));
        Check.dueThrow("the 21st", UnsupportedOperationException.class, () -> x.range(0, 95, false));
        Check.dueThrow("the 21st, no page", IllegalArgumentException.class, () -> x.range(0, 0, false));
        Check.due("none to end", 0, () -> x.range(0, 95, true));
        Check.due("nothing has changed", 20, () -> x.row(0, 2));
    }
}
