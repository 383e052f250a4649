public final class Promise04PageTest {
    private static final int[] MOST = {3999, 99999, 702};

    public static void main(String[] args) {
        Check.sentence("A page of an entry: how many pages and ranges it has then.", Promise04PageTest::howMany);
        Check.sentence("0 small Roman numbers (1 .. 3999)", () -> numbers(0));
        Check.sentence("1 numbers (1 .. 99999)", () -> numbers(1));
        Check.sentence("2 small letters (1 .. 702: a .. z, aa, ab .. zz)", () -> numbers(2));
        Check.sentence("PAGES are of a KIND: 0", Promise04PageTest::kinds);
        Check.sentence("NoSuchElementException: there is no such entry.", Promise04PageTest::noEntry);
        Check.sentence("UnsupportedOperationException when it has 20.", Promise04PageTest::twentyAtMost);
        Check.finish();
    }

    private static void howMany() {
        IndexSort x = Check.tops("a", "a");
        Check.due("the first", 1, () -> x.page(0, 1, 7));
        Check.due("the same page counts again", 2, () -> x.page(0, 1, 7));
        x.range(0, 9, false);
        Check.due("a range counts when it has begun", 4, () -> x.page(0, 0, 7));
        x.range(0, 8, false);
        x.range(0, 8, true);
        Check.due("not when it was refused", 5, () -> x.page(0, 1, 7));
        x.range(0, 30, true);
        Check.due("not again when it ends", 6, () -> x.page(0, 1, 7));
        Check.due("a same one has its own", 1, () -> x.page(1, 1, 7));
    }

    private static void numbers(int kind) {
        IndexSort x = new IndexSort();
        x.entry(0, -1);
        Check.due("the first page", 1, () -> x.page(0, kind, 1));
        Check.due("the last page", 2, () -> x.page(0, kind, MOST[kind]));
        Check.same("both", kind + ":1-1 " + kind + ":" + MOST[kind] + "-" + MOST[kind], Check.locators(x, 0));
        for (int n : Check.outside(1, MOST[kind])) {
            Check.refused("page(0, " + kind + ", " + n + ")", Check.ILLEGAL, Check::some, y -> y.page(0, kind, n));
        }
    }

    private static void kinds() {
        for (int kind : Check.outside(0, 2)) {
            Check.refused("page(0, " + kind + ", 1)", Check.ILLEGAL, Check::some, x -> x.page(0, kind, 1));
        }
    }

    private static void noEntry() {
        IndexSort x = new IndexSort();
        Check.due("page(0, 1, 1) with none", Check.NO_ENTRY, () -> x.page(0, 1, 1));
        for (int e : Check.noEntries(5)) {
            Check.refused("page(" + e + ", 1, 1)", Check.NO_ENTRY, Check::some, y -> y.page(e, 1, 1));
            Check.refused("page(" + e + ", 3, 1): named first", Check.NO_ENTRY, Check::some, y -> y.page(e, 3, 1));
            Check.refused("page(" + e + ", 1, 0): named first", Check.NO_ENTRY, Check::some, y -> y.page(e, 1, 0));
        }
    }

    /** Entry 0 has a page of each even number, entry 3 two ranges and pages: each 20. */
    private static void twenty(IndexSort x) {
        Check.some(x);
        for (int k = 2; k <= 20; k++) {
            x.page(0, k % 3, 2 * k);
        }
        for (int k = 3; k <= 20; k++) {
            x.page(3, k % 3, 2 * k);
        }
    }

    private static void twentyAtMost() {
        IndexSort x = new IndexSort();
        x.entry(0, -1);
        for (int k = 1; k <= 20; k++) {
            int n = k;
            Check.due("page " + k, k, () -> x.page(0, 1, 3 * n));
        }
        Check.due("20 locators", 20, () -> x.row(0, 2));
        Check.due("the last one", 60, () -> x.locator(0, 19, 1));
        for (int e : new int[] {0, 3}) {
            Check.refused("the 21st", Check.FULL, Promise04PageTest::twenty, y -> y.page(e, 1, 77));
            Check.refused("the 21st, told already", Check.FULL, Promise04PageTest::twenty, y -> y.page(e, 0, 6));
            Check.refused("the 21st, no page", Check.ILLEGAL, Promise04PageTest::twenty, y -> y.page(e, 1, 0));
            Check.refused("the 21st, of no kind", Check.ILLEGAL, Promise04PageTest::twenty, y -> y.page(e, 3, 1));
        }
        IndexSort full = new IndexSort();
        twenty(full);
        Check.due("a same one is not full", 3, () -> full.page(4, 1, 77));
    }
}
