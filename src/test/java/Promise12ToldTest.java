public final class Promise12ToldTest {
    public static void main(String[] args) {
        Check.sentence("Of warning i: 0 its kind, 1 its entry, 2 its number (0 of kind 3); i = -1: how many.",
            Promise12ToldTest::each);
        Check.sentence("i = -1: how many", Promise12ToldTest::howMany);
        Check.sentence("i = -1: how many. IndexOutOfBoundsException.", Promise12ToldTest::outside);
        Check.sentence("1 a range that is not ended (its begin)", Promise12ToldTest::notEnded);
        Check.sentence("2 each entry to see, in the order told, whose row has no page (that entry)",
            Promise12ToldTest::blind);
        Check.sentence("2 each entry to see, in the order told, whose row has no page (that entry)",
            Promise12ToldTest::blindSame);
        Check.sentence("3 an entry that is not the same as an earlier one", Promise12ToldTest::bareFirst);
        Check.sentence("whose row has no page, nothing to see, and nothing under it", Promise12ToldTest::bare);
        Check.sentence("by entries, of one entry by kinds", Promise12ToldTest::byEntriesThenKinds);
        Check.finish();
    }

    private static void each() {
        IndexSort x = Check.tops("b", "a");
        x.range(0, 7, false);
        x.see(0, 1);
        int[][] due = {{1, 0, 7}, {2, 0, 1}, {3, 1, 0}};
        Check.due("how many", 3, () -> x.told(-1, 0));
        for (int i = 0; i < due.length; i++) {
            for (int what = 0; what < 3; what++) {
                int warning = i;
                int asked = what;
                Check.due("told(" + i + ", " + what + ")", due[i][what], () -> x.told(warning, asked));
            }
        }
    }

    private static void howMany() {
        IndexSort x = new IndexSort();
        Check.due("none", 0, () -> x.told(-1, 0));
        for (int e = 0; e < 80; e++) {
            Check.top(x, "x" + e);
        }
        for (int what : new int[] {0, 1, 2, 3, -1, Integer.MAX_VALUE, Integer.MIN_VALUE}) {
            Check.due("80, whatever is asked of them", 80, () -> x.told(-1, what));
        }
        Check.due("the last one", 79, () -> x.told(79, 1));
        Check.due("no more", Check.OUTSIDE, () -> x.told(80, 1));
        fourHundred();
    }

    /** 80 entries that are the same, at each of which the five behind it are to see. */
    private static void fourHundred() {
        IndexSort x = new IndexSort();
        for (int e = 0; e < 80; e++) {
            x.entry(0, -1);
        }
        for (int e = 0; e < 80; e++) {
            for (int k = 1; k <= 5; k++) {
                x.see(e, (e + k) % 80);
            }
        }
        Check.due("five of each of 80", 400, () -> x.told(-1, 0));
        Check.due("the last one's kind", 2, () -> x.told(399, 0));
        Check.due("the last one's entry", 79, () -> x.told(399, 1));
        Check.due("the last one's number", 4, () -> x.told(399, 2));
        Check.due("no more", Check.OUTSIDE, () -> x.told(400, 0));
        Check.due("all one row", 1, () -> x.row(0, 3));
    }

    private static void outside() {
        IndexSort none = new IndexSort();
        Check.due("told(0, 0) with none", Check.OUTSIDE, () -> none.told(0, 0));
        IndexSort x = new IndexSort();
        Check.some(x);
        Check.same("the warnings", "3:2:0 1:3:20 2:4:2", Check.warnings(x));
        for (int i : new int[] {3, -2, Integer.MAX_VALUE, Integer.MIN_VALUE}) {
            for (int what = 0; what < 3; what++) {
                int asked = what;
                Check.refused("told(" + i + ", " + what + ")", Check.OUTSIDE, Check::some, y -> y.told(i, asked));
            }
        }
        for (int what : Check.outside(0, 2)) {
            Check.refused("told(0, " + what + ")", Check.OUTSIDE, Check::some, y -> y.told(0, what));
            Check.refused("told(2, " + what + ")", Check.OUTSIDE, Check::some, y -> y.told(2, what));
        }
    }

    private static void notEnded() {
        IndexSort x = Check.tops("a", "a");
        x.range(0, 1, false);
        x.range(1, 99999, false);
        Check.same("of each entry, the same ones too", "1:0:1 1:1:99999", Check.warnings(x));
        x.range(0, 5, false);
        Check.same("its begin", "1:0:1 1:1:99999", Check.warnings(x));
        x.range(0, 1, true);
        Check.same("ended", "1:1:99999", Check.warnings(x));
        x.range(0, 2, false);
        Check.same("the next one", "1:0:2 1:1:99999", Check.warnings(x));
        x.range(1, 99998, true);
        Check.same("not ended before it began", "1:0:2 1:1:99999", Check.warnings(x));
        x.range(1, 99999, true);
        x.range(0, 2, true);
        Check.same("none", "", Check.warnings(x));
    }

    private static void blind() {
        IndexSort x = Check.tops("a", "b", "c", "d", "e", "f");
        x.page(0, 1, 1);
        for (int other : new int[] {5, 2, 4, 1, 3}) {
            x.see(0, other);
        }
        for (int e = 1; e < 6; e++) {
            x.see(e, 0);
        }
        Check.same("five, in the order told", "2:0:5 2:0:2 2:0:4 2:0:1 2:0:3", Check.warnings(x));
        x.page(4, 2, 7);
        Check.same("not of one with a page", "2:0:5 2:0:2 2:0:1 2:0:3", Check.warnings(x));
        x.range(2, 7, false);
        Check.same("a range that is not ended is a page", "2:0:5 2:0:1 2:0:3 1:2:7", Check.warnings(x));
        x.range(2, 8, true);
        x.page(5, 0, 1);
        x.page(3, 1, 1);
        Check.same("one is left", "2:0:1", Check.warnings(x));
        Check.entry(x, 1, 1, "under");
        x.page(6, 1, 1);
        Check.same("a page of one under it is not its", "2:0:1", Check.warnings(x));
    }

    private static void blindSame() {
        IndexSort x = Check.tops("a", "b", "b", "b", "a");
        x.page(0, 1, 1);
        x.see(1, 0);
        x.see(0, 2);
        x.see(0, 1);
        x.see(4, 3);
        Check.same("that entry, not its row's; each one", "2:0:2 2:0:1 2:4:3", Check.warnings(x));
        x.page(3, 1, 1);
        Check.same("its row has a page", "", Check.warnings(x));
        x.sign(3, 'x');
        Check.same("no longer the same", "2:0:2 2:0:1", Check.warnings(x));
    }

    private static void bareFirst() {
        IndexSort x = Check.tops("a", "a", "b");
        Check.same("not of a same one", "3:0:0 3:2:0", Check.warnings(x));
        Check.same("without words", "3:0:0", Check.warnings(Check.tops("", "")));
        x.sign(1, 'x');
        Check.same("no longer the same", "3:0:0 3:1:0 3:2:0", Check.warnings(x));
    }

    private static void bare() {
        IndexSort x = Check.tops("a", "b", "c", "d", "a", "b", "c");
        Check.same("four", "3:0:0 3:1:0 3:2:0 3:3:0", Check.warnings(x));
        x.page(3, 0, 1);
        Check.same("a page", "3:0:0 3:1:0 3:2:0", Check.warnings(x));
        x.page(4, 2, 1);
        Check.same("a page of a same one", "3:1:0 3:2:0", Check.warnings(x));
        x.see(5, 3);
        Check.same("something to see at a same one", "3:2:0", Check.warnings(x));
        x.entry(1, 6);
        Check.same("something under a same one, itself bare", "3:7:0", Check.warnings(x));
        x.entry(2, 7);
        Check.same("of level 2", "3:8:0", Check.warnings(x));
        x.range(8, 3, false);
        Check.same("a range that is not ended is a page", "1:8:3", Check.warnings(x));
    }

    private static void byEntriesThenKinds() {
        IndexSort x = Check.tops("z", "y", "x", "w");
        x.see(2, 3);
        x.see(1, 3);
        x.see(2, 0);
        x.range(2, 7, false);
        x.range(1, 8, false);
        Check.same("not by rows, nor as told", "3:0:0 1:1:8 2:1:3 1:2:7 2:2:3 2:2:0 3:3:0", Check.warnings(x));
    }
}
