public final class Promise05RangeTest {
    public static void main(String[] args) {
        Check.sentence("A range of pages (kind 1) of an entry begins, or ends: 1", Promise05RangeTest::beginsAndEnds);
        Check.sentence("A range of pages (kind 1) of an entry begins, or ends: 1", Promise05RangeTest::ofEachEntry);
        Check.sentence("0, and it does not, when one has begun already", Promise05RangeTest::begunAlready);
        Check.sentence("when one has begun already, or none", Promise05RangeTest::noneHasBegun);
        Check.sentence("or it would end before it began", Promise05RangeTest::endsBeforeItBegan);
        Check.sentence("IllegalArgumentException (n)", Promise05RangeTest::numbers);
        Check.sentence("NoSuchElementException: there is no such entry.", Promise05RangeTest::noEntry);
        Check.sentence("UnsupportedOperationException when it begins, and the entry has 20.",
            Promise05RangeTest::twentyAtMost);
        Check.finish();
    }

    private static void beginsAndEnds() {
        IndexSort x = new IndexSort();
        x.entry(0, -1);
        Check.due("begins", 1, () -> x.range(0, 5, false));
        Check.same("not ended it is a page", "1:5-5", Check.locators(x, 0));
        Check.due("ends", 1, () -> x.range(0, 8, true));
        Check.same("of kind 1", "1:5-8", Check.locators(x, 0));
        Check.due("the next one begins before it", 1, () -> x.range(0, 1, false));
        Check.due("and ends in it", 1, () -> x.range(0, 6, true));
        Check.same("both", "1:1-8", Check.locators(x, 0));
    }

    private static void ofEachEntry() {
        IndexSort x = Check.tops("a", "a");
        Check.due("begins at 0", 1, () -> x.range(0, 5, false));
        Check.due("none has begun at the same one", 0, () -> x.range(1, 9, true));
        Check.due("begins at the same one too", 1, () -> x.range(1, 20, false));
        Check.due("ends at 0", 1, () -> x.range(0, 6, true));
        Check.same("joined", "1:5-6 1:20-20", Check.locators(x, 0));
    }

    /** Entry 3 of some has a range that is not ended, from 20. */
    private static void begunAlready() {
        for (int n : new int[] {1, 19, 20, 21, 99999}) {
            Check.refused("range(3, " + n + ", false)", "0", Check::some, x -> x.range(3, n, false));
        }
        IndexSort x = new IndexSort();
        Check.some(x);
        x.range(3, 30, false);
        x.range(3, 40, true);
        Check.same("it began where it began", "1:10-11 1:20-40", Check.locators(x, 0));
    }

    private static void noneHasBegun() {
        for (int n : new int[] {1, 12, 99999}) {
            Check.refused("never: range(0, " + n + ", true)", "0", Check::some, x -> x.range(0, n, true));
            Check.refused("ended: range(3, " + n + ", true)", "0", Promise05RangeTest::ended, x -> x.range(3, n, true));
        }
    }

    private static void ended(IndexSort x) {
        Check.some(x);
        x.range(3, 21, true);
    }

    private static void endsBeforeItBegan() {
        Check.refused("one before", "0", Check::some, x -> x.range(3, 19, true));
        Check.refused("far before", "0", Check::some, x -> x.range(3, 1, true));
        IndexSort x = new IndexSort();
        Check.some(x);
        Check.due("one before", 0, () -> x.range(3, 19, true));
        Check.due("it stands open still", 0, () -> x.range(3, 50, false));
        Check.due("where it began", 1, () -> x.range(3, 20, true));
        Check.due("ended", 0, () -> x.range(3, 20, true));
    }

    private static void numbers() {
        IndexSort x = new IndexSort();
        x.entry(0, -1);
        x.entry(1, 0);
        Check.due("begins at the first page", 1, () -> x.range(0, 1, false));
        Check.due("ends at the last page", 1, () -> x.range(0, 99999, true));
        Check.due("begins at the last page", 1, () -> x.range(1, 99999, false));
        Check.due("and ends there", 1, () -> x.range(1, 99999, true));
        Check.same("all pages", "1:1-99999", Check.locators(x, 0));
        Check.same("the last page", "1:99999-99999", Check.locators(x, 1));
        Check.due("begins at the first page", 1, () -> x.range(1, 1, false));
        Check.due("and ends there", 1, () -> x.range(1, 1, true));
        for (int n : Check.outside(1, 99999)) {
            for (int e : new int[] {0, 3}) {
                Check.refused("range(" + e + ", " + n + ", false)", Check.ILLEGAL, Check::some, y -> y.range(e, n, false));
                Check.refused("range(" + e + ", " + n + ", true)", Check.ILLEGAL, Check::some, y -> y.range(e, n, true));
            }
        }
    }

    private static void noEntry() {
        IndexSort x = new IndexSort();
        Check.due("range(0, 1, false) with none", Check.NO_ENTRY, () -> x.range(0, 1, false));
        Check.due("range(0, 1, true) with none", Check.NO_ENTRY, () -> x.range(0, 1, true));
        for (int e : Check.noEntries(5)) {
            for (boolean ends : new boolean[] {false, true}) {
                Check.refused("range(" + e + ", 1, " + ends + ")", Check.NO_ENTRY, Check::some, y -> y.range(e, 1, ends));
                Check.refused("range(" + e + ", 0, " + ends + "): named first", Check.NO_ENTRY, Check::some,
                    y -> y.range(e, 0, ends));
            }
        }
    }

    private static void nineteen(IndexSort x) {
        Check.some(x);
        for (int k = 2; k <= 19; k++) {
            x.page(0, 1, 3 * k);
        }
    }

    private static void twenty(IndexSort x) {
        nineteen(x);
        x.page(0, 1, 60);
    }

    private static void twentyAndOpen(IndexSort x) {
        nineteen(x);
        x.range(0, 60, false);
    }

    private static void twentyAtMost() {
        IndexSort x = new IndexSort();
        nineteen(x);
        Check.due("the 20th begins", 1, () -> x.range(0, 90, false));
        Check.due("it ends all the same", 1, () -> x.range(0, 91, true));
        Check.due("and is full", Check.FULL, () -> x.range(0, 95, false));
        Check.refused("the 21st", Check.FULL, Promise05RangeTest::twenty, y -> y.range(0, 95, false));
        Check.refused("the 21st, no page", Check.ILLEGAL, Promise05RangeTest::twenty, y -> y.range(0, 0, false));
        Check.refused("none to end", "0", Promise05RangeTest::twenty, y -> y.range(0, 95, true));
        Check.refused("one that has begun already does not begin", "0", Promise05RangeTest::twentyAndOpen,
            y -> y.range(0, 95, false));
        Check.refused("one that would end before it began", "0", Promise05RangeTest::twentyAndOpen,
            y -> y.range(0, 59, true));
    }
}
