public final class Promise10LocatorTest {
    public static void main(String[] args) {
        byKindsThenNumbers();
        neighbours();
        ranges();
        joined();
        wrongInputs();
        Check.finish();
    }

    private static IndexSort pages(int kind, int... numbers) {
        IndexSort x = new IndexSort();
        x.entry(0, -1);
        for (int n : numbers) {
            x.page(0, kind, n);
        }
        return x;
    }

    private static void byKindsThenNumbers() {
        IndexSort x = pages(2, 3);
        x.page(0, 1, 10);
        x.page(0, 0, 4);
        x.page(0, 1, 2);
        x.page(0, 1, 10);
        Check.same("by kinds, then numbers, each once", "0:4-4 1:2-2 1:10-10 2:3-3", Check.locators(x, 0));
    }

    private static void neighbours() {
        for (int kind = 0; kind < 3; kind++) {
            String k = kind + ":";
            Check.same("two are each by itself", k + "5-5 " + k + "6-6", Check.locators(pages(kind, 6, 5), 0));
            Check.same("three are one", k + "5-7", Check.locators(pages(kind, 6, 7, 5, 6), 0));
            Check.same("a gap parts", k + "1-4 " + k + "6-6 " + k + "7-7",
                Check.locators(pages(kind, 7, 6, 4, 3, 2, 1), 0));
        }
        IndexSort x = pages(0, 1);
        x.page(0, 1, 2);
        x.page(0, 2, 3);
        Check.same("kinds are not neighbours", "0:1-1 1:2-2 2:3-3", Check.locators(x, 0));
        IndexSort last = pages(0, 3998, 3999);
        last.page(0, 1, 1);
        last.page(0, 1, 2);
        Check.same("nor their ends", "0:3998-3998 0:3999-3999 1:1-1 1:2-2", Check.locators(last, 0));
    }

    private static void ranges() {
        IndexSort x = pages(1, 40);
        range(x, 0, 10, 11);
        Check.same("a told range of two", "1:10-11 1:40-40", Check.locators(x, 0));
        range(x, 0, 39, 39);
        Check.same("a told range lies in it", "1:10-11 1:39-40", Check.locators(x, 0));
        range(x, 0, 13, 30);
        range(x, 0, 15, 20);
        Check.same("one in another", "1:10-11 1:13-30 1:39-40", Check.locators(x, 0));
        x.page(0, 1, 12);
        Check.same("a page between", "1:10-30 1:39-40", Check.locators(x, 0));
        x.range(0, 50, false);
        x.page(0, 1, 51);
        Check.same("not ended it is no range", "1:10-30 1:39-40 1:50-50 1:51-51", Check.locators(x, 0));
        x.range(0, 50, true);
        Check.same("ended it is", "1:10-30 1:39-40 1:50-51", Check.locators(x, 0));
        IndexSort y = pages(0, 10, 11);
        range(y, 0, 10, 11);
        Check.same("a range is of kind 1 alone", "0:10-10 0:11-11 1:10-11", Check.locators(y, 0));
    }

    private static void range(IndexSort x, int entry, int from, int to) {
        x.range(entry, from, false);
        x.range(entry, to, true);
    }

    private static void joined() {
        IndexSort x = new IndexSort();
        Check.top(x, "a");
        Check.top(x, "b");
        Check.top(x, "a");
        x.page(0, 1, 3);
        x.page(1, 1, 4);
        x.page(2, 1, 4);
        x.page(2, 1, 2);
        Check.same("pages of same entries", "1:2-4", Check.locators(x, 0));
        Check.same("and of another one", "1:4-4", Check.locators(x, 1));
        x.sign(2, 'z');
        Check.same("no longer the same", "1:3-3", Check.locators(x, 0));
    }

    private static void wrongInputs() {
        IndexSort x = pages(1, 5);
        Check.due("kind", 1, () -> x.locator(0, 0, 0));
        Check.due("from", 5, () -> x.locator(0, 0, 1));
        Check.due("to", 5, () -> x.locator(0, 0, 2));
        int[][] none = {{1, 0, 0}, {-1, 0, 0}, {0, 1, 0}, {0, -1, 0}, {0, 0, 3}, {0, 0, -1},
            {Integer.MAX_VALUE, 0, 0}, {0, Integer.MAX_VALUE, 0}, {0, 0, Integer.MIN_VALUE}};
        for (int[] at : none) {
            Check.dueThrow("locator(" + at[0] + ", " + at[1] + ", " + at[2] + ")",
                IndexOutOfBoundsException.class, () -> x.locator(at[0], at[1], at[2]));
        }
    }
}
