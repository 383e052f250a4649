import java.util.NoSuchElementException;

public final class Promise04PageTest {
    public static void main(String[] args) {
        IndexSort x = new IndexSort();
        Check.dueThrow("page(0, 1, 1) with none", NoSuchElementException.class, () -> x.page(0, 1, 1));
        x.entry(0, -1);
        Check.dueThrow("page(1, 9, 1): named first", NoSuchElementException.class, () -> x.page(1, 9, 1));
        edge(x, 0, 3999);
        edge(x, 1, 99999);
        edge(x, 2, 702);
        Check.dueThrow("page(0, 3, 1)", IllegalArgumentException.class, () -> x.page(0, 3, 1));
        Check.dueThrow("page(0, -1, 1)", IllegalArgumentException.class, () -> x.page(0, -1, 1));
        Check.dueThrow("page(0, 1, MIN)", IllegalArgumentException.class, () -> x.page(0, 1, Integer.MIN_VALUE));
        Check.dueThrow("page(0, 1, MAX)", IllegalArgumentException.class, () -> x.page(0, 1, Integer.MAX_VALUE));
        Check.same("each page", "0:1-1 0:3999-3999 1:1-1 1:99999-99999 2:1-1 2:702-702", Check.locators(x, 0));
        twentyAtMost();
        Check.finish();
    }

    private static void edge(IndexSort x, int kind, int most) {
        Check.due("page(0, " + kind + ", 1)", 2 * kind + 1, () -> x.page(0, kind, 1));
        Check.due("page(0, " + kind + ", " + most + ")", 2 * kind + 2, () -> x.page(0, kind, most));
        Check.dueThrow("one more", IllegalArgumentException.class, () -> x.page(0, kind, most + 1));
        Check.dueThrow("page 0", IllegalArgumentException.class, () -> x.page(0, kind, 0));
    }

    private static void twentyAtMost() {
        IndexSort x = new IndexSort();
        x.entry(0, -1);
        for (int k = 1; k <= 18; k++) {
            int due = k;
            Check.due("the same page counts again, " + k, due, () -> x.page(0, 1, 7));
        }
        x.range(0, 9, false);
        Check.due("a range counts when it has begun", 20, () -> x.page(0, 1, 7));
        Check.dueThrow("the 21st", UnsupportedOperationException.class, () -> x.page(0, 1, 7));
        Check.dueThrow("the 21st, no page", IllegalArgumentException.class, () -> x.page(0, 1, 0));
        Check.same("each page once", "1:7-7 1:9-9", Check.locators(x, 0));
        x.entry(0, -1);
        Check.due("each entry has its own pages", 1, () -> x.page(1, 1, 7));
    }
}
