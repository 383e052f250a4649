public final class Promise10LocatorTest {
    private static final int[] MOST = {3999, 99999, 702};

    public static void main(String[] args) {
        Check.sentence("Of locator j of row i: 0 its kind, 1 from, 2 to.", Promise10LocatorTest::each);
        Check.sentence("Of locator j of row i: 0 its kind, 1 from, 2 to.", Promise10LocatorTest::rowByRow);
        Check.sentence("Of locator j of row i: 0 its kind, 1 from, 2 to. IndexOutOfBoundsException.",
            Promise10LocatorTest::outside);
        Check.sentence("all its pages, by kinds, then numbers, each once", Promise10LocatorTest::byKindsThenNumbers);
        Check.sentence("if it has three or more", Promise10LocatorTest::threeOrMore);
        Check.sentence("of each longest row of numbers one behind the other one FROM .. TO",
            Promise10LocatorTest::longestRows);
        Check.sentence("of each longest row of numbers one behind the other one FROM .. TO",
            Promise10LocatorTest::endsOfKinds);
        Check.sentence("or a told range lies in it", Promise10LocatorTest::toldRanges);
        Check.sentence("or a told range lies in it", Promise10LocatorTest::rangesOfKind1);
        Check.sentence("else each by itself", Promise10LocatorTest::eachByItself);
        Check.sentence("(A range that is not ended is a page, its begin.)", Promise10LocatorTest::notEnded);
        Check.sentence("It counts for that: its pages", Promise10LocatorTest::joined);
        Check.finish();
    }

    private static IndexSort pages(int kind, int... numbers) {
        IndexSort x = new IndexSort();
        x.entry(0, -1);
        for (int n : numbers) {
            x.page(0, kind, n);
        }
        return x;
    }

    private static void each() {
        IndexSort x = pages(0, 8);
        Check.range(x, 0, 5, 7);
        int[][] due = {{0, 8, 8}, {1, 5, 7}};
        for (int j = 0; j < due.length; j++) {
            for (int what = 0; what < 3; what++) {
                int locator = j;
                int asked = what;
                Check.due("locator(0, " + j + ", " + what + ")", due[j][what], () -> x.locator(0, locator, asked));
            }
        }
    }

    /** A row with fewer pages behind one with more: nothing of that one is left in it. */
    private static void rowByRow() {
        IndexSort x = Check.tops("a", "b", "c");
        x.page(0, 1, 10);
        x.page(0, 1, 20);
        x.page(0, 1, 21);
        x.page(1, 1, 19);
        for (int time = 0; time < 2; time++) {
            Check.same("row 0", "1:10-10 1:20-20 1:21-21", Check.locators(x, 0));
            Check.same("row 1", "1:19-19", Check.locators(x, 1));
            Check.same("row 2", "", Check.locators(x, 2));
        }
        Check.same("printed", "a 10, 20, 21.b 19.c .", Check.printed(x, "|%w %p.||"));
    }

    /** In some, row 0 is bush with two locators, row 1 Tree with one, row 3 vein with none. */
    private static void outside() {
        IndexSort none = new IndexSort();
        Check.due("locator(0, 0, 0) with none", Check.OUTSIDE, () -> none.locator(0, 0, 0));
        Check.refused("of a row without pages", Check.OUTSIDE, Check::some, x -> x.locator(3, 0, 0));
        for (int i : Check.outside(0, 3)) {
            Check.refused("locator(" + i + ", 0, 0)", Check.OUTSIDE, Check::some, x -> x.locator(i, 0, 0));
        }
        for (int j : Check.outside(0, 1)) {
            Check.refused("locator(0, " + j + ", 1)", Check.OUTSIDE, Check::some, x -> x.locator(0, j, 1));
        }
        Check.refused("a locator of the row before", Check.OUTSIDE, Check::some, x -> x.locator(1, 1, 0));
        for (int what : Check.outside(0, 2)) {
            Check.refused("locator(0, 1, " + what + ")", Check.OUTSIDE, Check::some, x -> x.locator(0, 1, what));
        }
        IndexSort x = new IndexSort();
        Check.some(x);
        Check.due("the last one of row 0", 20, () -> x.locator(0, 1, 2));
    }

    private static void byKindsThenNumbers() {
        IndexSort x = pages(2, 3);
        for (int[] page : new int[][] {{1, 10}, {0, 4}, {1, 2}, {1, 10}, {0, 4}, {2, 1}}) {
            x.page(0, page[0], page[1]);
        }
        Check.same("by kinds, then numbers, each once", "0:4-4 1:2-2 1:10-10 2:1-1 2:3-3", Check.locators(x, 0));
        Check.range(x, 0, 10, 12);
        Check.range(x, 0, 10, 12);
        Check.same("a range's pages too", "0:4-4 1:2-2 1:10-12 2:1-1 2:3-3", Check.locators(x, 0));
        Check.same("none", "", Check.locators(pages(1), 0));
    }

    private static void threeOrMore() {
        for (int kind = 0; kind < 3; kind++) {
            String k = kind + ":";
            Check.same("one", k + "5-5", Check.locators(pages(kind, 5), 0));
            Check.same("two", k + "5-5 " + k + "6-6", Check.locators(pages(kind, 6, 5), 0));
            Check.same("three", k + "5-7", Check.locators(pages(kind, 6, 7, 5), 0));
            Check.same("four", k + "5-8", Check.locators(pages(kind, 8, 6, 7, 5), 0));
            Check.same("two told twice are two", k + "5-5 " + k + "6-6", Check.locators(pages(kind, 6, 5, 6, 5), 0));
            Check.same("three told twice", k + "5-7", Check.locators(pages(kind, 6, 7, 5, 6, 7, 5), 0));
        }
        Check.same("twenty", "1:1-20",
            Check.locators(pages(1, 20, 1, 19, 2, 18, 3, 17, 4, 16, 5, 15, 6, 14, 7, 13, 8, 12, 9, 11, 10), 0));
    }

    private static void longestRows() {
        Check.same("a gap parts", "1:1-4 1:6-6 1:7-7 1:9-9", Check.locators(pages(1, 9, 7, 6, 4, 3, 2, 1), 0));
        Check.same("three and three", "1:1-3 1:5-7", Check.locators(pages(1, 1, 2, 3, 5, 6, 7), 0));
        Check.same("two, one and three", "2:1-1 2:2-2 2:4-4 2:6-8", Check.locators(pages(2, 1, 2, 4, 6, 7, 8), 0));
        IndexSort x = pages(1, 1, 2, 3, 5, 6, 7);
        x.page(0, 1, 4);
        Check.same("the gap filled", "1:1-7", Check.locators(x, 0));
    }

    private static void endsOfKinds() {
        for (int kind = 0; kind < 3; kind++) {
            String k = kind + ":";
            int most = MOST[kind];
            Check.same("the first three", k + "1-3", Check.locators(pages(kind, 1, 2, 3), 0));
            Check.same("the last three", k + (most - 2) + "-" + most,
                Check.locators(pages(kind, most, most - 1, most - 2), 0));
            Check.same("the last two and the first", k + "1-1 " + k + (most - 1) + "-" + (most - 1) + " " + k + most + "-"
                + most, Check.locators(pages(kind, most, most - 1, 1), 0));
        }
        IndexSort x = pages(0, 1);
        x.page(0, 1, 2);
        x.page(0, 2, 3);
        Check.same("kinds are not neighbours", "0:1-1 1:2-2 2:3-3", Check.locators(x, 0));
        IndexSort last = pages(0, 3998, 3999);
        last.page(0, 1, 1);
        last.page(0, 1, 99999);
        last.page(0, 2, 1);
        last.page(0, 2, 2);
        Check.same("nor their ends", "0:3998-3998 0:3999-3999 1:1-1 1:99999-99999 2:1-1 2:2-2", Check.locators(last, 0));
    }

    private static IndexSort ranges(int... fromTo) {
        IndexSort x = new IndexSort();
        x.entry(0, -1);
        for (int k = 0; k < fromTo.length; k += 2) {
            Check.range(x, 0, fromTo[k], fromTo[k + 1]);
        }
        return x;
    }

    private static void toldRanges() {
        Check.same("of one page", "1:39-39", Check.locators(ranges(39, 39), 0));
        Check.same("of two", "1:10-11", Check.locators(ranges(10, 11), 0));
        Check.same("of all", "1:1-99999", Check.locators(ranges(1, 99999), 0));
        Check.same("one in another", "1:13-30", Check.locators(ranges(13, 30, 15, 20), 0));
        Check.same("the same begin", "1:13-30", Check.locators(ranges(13, 30, 13, 20), 0));
        Check.same("the same end", "1:13-30", Check.locators(ranges(15, 30, 13, 30), 0));
        Check.same("one over another", "1:10-30", Check.locators(ranges(20, 30, 10, 20), 0));
        Check.same("one next to another", "1:10-13", Check.locators(ranges(12, 13, 10, 11), 0));
        Check.same("one page between", "1:10-11 1:13-14", Check.locators(ranges(13, 14, 10, 11), 0));
        IndexSort x = ranges(39, 39);
        x.page(0, 1, 40);
        Check.same("two, one of them told as a range", "1:39-40", Check.locators(x, 0));
        IndexSort before = ranges(39, 39);
        before.page(0, 1, 38);
        Check.same("the second of them told as a range", "1:38-39", Check.locators(before, 0));
        IndexSort both = ranges(10, 11);
        both.page(0, 1, 10);
        both.page(0, 1, 11);
        Check.same("a range whose pages are told too", "1:10-11", Check.locators(both, 0));
        IndexSort y = ranges(13, 14, 10, 11);
        y.page(0, 1, 12);
        y.page(0, 1, 9);
        y.page(0, 1, 15);
        Check.same("pages before, between and behind", "1:9-15", Check.locators(y, 0));
        IndexSort in = ranges(5, 9);
        in.page(0, 1, 7);
        in.page(0, 1, 11);
        in.page(0, 1, 12);
        Check.same("a page in it; two behind a gap", "1:5-9 1:11-11 1:12-12", Check.locators(in, 0));
    }

    private static void rangesOfKind1() {
        IndexSort x = pages(0, 10, 11);
        Check.range(x, 0, 10, 11);
        x.page(0, 2, 10);
        x.page(0, 2, 11);
        Check.same("not of the others", "0:10-10 0:11-11 1:10-11 2:10-10 2:11-11", Check.locators(x, 0));
    }

    private static void eachByItself() {
        IndexSort x = pages(1, 2, 1);
        Check.due("two", 2, () -> x.row(0, 2));
        Check.due("the first from", 1, () -> x.locator(0, 0, 1));
        Check.due("the first to", 1, () -> x.locator(0, 0, 2));
        Check.due("the second from", 2, () -> x.locator(0, 1, 1));
        Check.due("the second to", 2, () -> x.locator(0, 1, 2));
        Check.range(x, 0, 4, 5);
        Check.same("a range behind a gap does not lie in it", "1:1-1 1:2-2 1:4-5", Check.locators(x, 0));
    }

    private static void notEnded() {
        IndexSort x = pages(1, 51);
        x.range(0, 50, false);
        Check.same("a page", "1:50-50 1:51-51", Check.locators(x, 0));
        x.page(0, 1, 49);
        Check.same("one of three", "1:49-51", Check.locators(x, 0));
        IndexSort y = pages(1, 51);
        y.range(0, 50, false);
        y.range(0, 50, true);
        Check.same("ended it is a range", "1:50-51", Check.locators(y, 0));
        y.range(0, 60, false);
        y.page(0, 1, 61);
        Check.same("the next one is not", "1:50-51 1:60-60 1:61-61", Check.locators(y, 0));
    }

    private static void joined() {
        IndexSort x = Check.tops("a", "b", "a");
        x.page(0, 1, 3);
        x.page(1, 1, 4);
        x.page(2, 1, 4);
        x.page(2, 1, 2);
        Check.same("pages of same entries", "1:2-4", Check.locators(x, 0));
        Check.same("and of another one", "1:4-4", Check.locators(x, 1));
        x.sign(2, 'z');
        Check.same("no longer the same", "1:3-3", Check.locators(x, 0));
        manyOfManySame();
    }

    /** 24 same entries of 18 pages each, none next to another: 432 locators, and the 466th call asks for one. */
    private static void manyOfManySame() {
        IndexSort x = new IndexSort();
        for (int e = 0; e < 24; e++) {
            x.entry(0, -1);
            for (int k = 0; k < 18; k++) {
                x.page(e, 1, 1 + 2 * (e + 24 * k));
            }
        }
        Check.due("432 locators", 432, () -> x.row(0, 2));
        Check.due("the last one", 863, () -> x.locator(0, 431, 1));
        Check.due("one of the middle", 401, () -> x.locator(0, 200, 2));
        Check.due("no more", Check.OUTSIDE, () -> x.locator(0, 432, 0));
    }
}
