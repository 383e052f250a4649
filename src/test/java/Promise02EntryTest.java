import java.util.NoSuchElementException;

public final class Promise02EntryTest {
    public static void main(String[] args) {
        IndexSort x = new IndexSort();
        Check.dueThrow("entry(0, 0) with none", NoSuchElementException.class, () -> x.entry(0, 0));
        Check.dueThrow("entry(9, 0): named first", NoSuchElementException.class, () -> x.entry(9, 0));
        Check.dueThrow("entry(0, -2)", NoSuchElementException.class, () -> x.entry(0, -2));
        Check.dueThrow("entry(0, MIN)", NoSuchElementException.class, () -> x.entry(0, Integer.MIN_VALUE));
        Check.dueThrow("entry(0, MAX)", NoSuchElementException.class, () -> x.entry(0, Integer.MAX_VALUE));
        Check.dueThrow("entry(1, -1)", IllegalArgumentException.class, () -> x.entry(1, -1));
        Check.dueThrow("entry(2, -1)", IllegalArgumentException.class, () -> x.entry(2, -1));
        Check.dueThrow("entry(3, -1)", IllegalArgumentException.class, () -> x.entry(3, -1));
        Check.dueThrow("entry(-1, -1)", IllegalArgumentException.class, () -> x.entry(-1, -1));
        Check.dueThrow("entry(MIN, -1)", IllegalArgumentException.class, () -> x.entry(Integer.MIN_VALUE, -1));
        Check.due("entry(0, -1)", 0, () -> x.entry(0, -1));
        Check.dueThrow("entry(0, 0)", IllegalArgumentException.class, () -> x.entry(0, 0));
        Check.dueThrow("entry(2, 0)", IllegalArgumentException.class, () -> x.entry(2, 0));
        Check.due("entry(1, 0)", 1, () -> x.entry(1, 0));
        Check.dueThrow("entry(1, 1)", IllegalArgumentException.class, () -> x.entry(1, 1));
        Check.due("entry(2, 1)", 2, () -> x.entry(2, 1));
        Check.dueThrow("entry(3, 2)", IllegalArgumentException.class, () -> x.entry(3, 2));
        Check.dueThrow("entry(1, 3)", NoSuchElementException.class, () -> x.entry(1, 3));
        Check.due("what threw made no entry", 3, () -> x.run());
        Check.due("a new entry has no words", 1, () -> x.sign(2, 'a'));
        Check.due("a new entry has no pages", 1, () -> x.page(2, 1, 1));
        eightyAtMost();
        Check.finish();
    }

    private static void eightyAtMost() {
        IndexSort x = new IndexSort();
        for (int e = 0; e < 80; e++) {
            int due = e;
            Check.due("entry " + e, due, () -> x.entry(0, -1));
        }
        Check.dueThrow("the 81st", UnsupportedOperationException.class, () -> x.entry(0, -1));
        Check.dueThrow("the 81st of level 1", UnsupportedOperationException.class, () -> x.entry(1, 79));
        Check.dueThrow("of no level", IllegalArgumentException.class, () -> x.entry(3, -1));
        Check.dueThrow("above none", NoSuchElementException.class, () -> x.entry(1, 80));
        Check.due("the last one is there", 1, () -> x.sign(79, 'a'));
    }
}
