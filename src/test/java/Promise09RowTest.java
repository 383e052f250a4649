public final class Promise09RowTest {
    public static void main(String[] args) {
        Check.sentence("Of row i: 0 its entry, 1 its level, 2 how many locators, 3 how many rows to see, 4 its group.",
            Promise09RowTest::each);
        Check.sentence("3 how many rows to see, 4 its group. IndexOutOfBoundsException.", Promise09RowTest::outside);
        Check.sentence("3 how many rows to see", Promise09RowTest::rowsToSee);
        Check.sentence("that of a row is its row's of level 0", Promise09RowTest::groupOfLevel0);
        Check.sentence("0 without a key", Promise09RowTest::withoutKey);
        Check.sentence("1 of a key whose first unit is a number", Promise09RowTest::numbers);
        Check.sentence("2 a break (never)", Promise09RowTest::neverBreak);
        Check.sentence("else the letter (97 .. 122)", Promise09RowTest::letters);
        Check.finish();
    }

    private static void each() {
        IndexSort x = Check.tops("Tree");
        Check.entry(x, 1, 0, "9 leaves");
        Check.entry(x, 2, 1, "vein");
        Check.top(x, "Tree");
        x.page(0, 1, 5);
        x.page(3, 1, 8);
        x.page(2, 0, 5);
        x.see(0, 1);
        x.see(3, 1);
        x.see(3, 2);
        row(x, 0, "0 0 2 2 116");
        row(x, 1, "1 1 0 0 116");
        row(x, 2, "2 2 1 0 116");
    }

    private static void row(IndexSort x, int i, String want) {
        StringBuilder got = new StringBuilder();
        for (int what = 0; what < 5; what++) {
            got.append(what == 0 ? "" : " ").append(x.row(i, what));
        }
        Check.same("row " + i, want, got.toString());
    }

    private static void outside() {
        IndexSort none = new IndexSort();
        Check.due("row(0, 0) with none", Check.OUTSIDE, () -> none.row(0, 0));
        Check.due("row(-1, 0) with none", Check.OUTSIDE, () -> none.row(-1, 0));
        for (int i : Check.outside(0, 3)) {
            for (int what = 0; what < 5; what++) {
                int asked = what;
                Check.refused("row(" + i + ", " + what + ")", Check.OUTSIDE, Check::some, x -> x.row(i, asked));
            }
        }
        for (int what : Check.outside(0, 4)) {
            Check.refused("row(0, " + what + ")", Check.OUTSIDE, Check::some, x -> x.row(0, what));
            Check.refused("row(3, " + what + ")", Check.OUTSIDE, Check::some, x -> x.row(3, what));
        }
        IndexSort x = new IndexSort();
        Check.some(x);
        Check.due("the last row", 2, () -> x.row(3, 0));
    }

    private static void rowsToSee() {
        IndexSort x = Check.tops("a", "b", "c", "b", "a");
        Check.due("none", 0, () -> x.row(0, 3));
        x.see(0, 1);
        Check.due("one", 1, () -> x.row(0, 3));
        x.see(0, 3);
        Check.due("a same one is no other row", 1, () -> x.row(0, 3));
        x.see(4, 1);
        Check.due("nor told at a same one", 1, () -> x.row(0, 3));
        x.see(4, 2);
        Check.due("another one told at a same one", 2, () -> x.row(0, 3));
        x.sign(3, 'x');
        Check.due("no longer the same", 3, () -> x.row(0, 3));
        tenToSee();
    }

    private static void tenToSee() {
        IndexSort x = Check.tops("a", "a");
        for (int e = 2; e < 12; e++) {
            Check.top(x, "x" + e);
            x.see(e % 2, e);
        }
        Check.due("five of each of two same ones", 10, () -> x.row(0, 3));
    }

    private static void groupOfLevel0() {
        IndexSort x = Check.tops("Tree", "7");
        Check.entry(x, 1, 0, "9");
        Check.entry(x, 2, 2, "leaf");
        Check.entry(x, 1, 1, "a");
        Check.entry(x, 2, 4, "");
        Check.same("the rows", "1 4 5 0 2 3", Check.order(x));
        int[] groups = {1, 1, 1, 't', 't', 't'};
        for (int i = 0; i < groups.length; i++) {
            int row = i;
            Check.due("row " + i, groups[i], () -> x.row(row, 4));
        }
        IndexSort joined = Check.tops("b", "b");
        Check.entry(joined, 1, 1, "x");
        Check.due("under a same one", 'b', () -> joined.row(1, 4));
    }

    private static void group(int want, String... words) {
        for (String one : words) {
            for (int rules = 0; rules < 4; rules++) {
                IndexSort x = Check.tops(one);
                x.rule(0, rules % 2 == 0);
                x.rule(1, rules / 2 == 0);
                Check.due("the group of " + one, want, () -> x.row(0, 4));
            }
        }
    }

    /** Signs next to letters and digits, and marked digits, are none. */
    private static void withoutKey() {
        group(0, "", " ", "- ", "@", "[", "`", "{", "/", ":", "\0", "\u007f", "\u0080", "\u00ff", "\u00c0", "\u00db",
            "\u00e0", "\u00fb", "\u00b0", "\u00b9", "....................");
    }

    private static void numbers() {
        group(1, "0", "9", "00", "12", "(7", " 13a", "7a", "\u00b17", "....................".substring(1) + "5");
    }

    private static void neverBreak() {
        group('b', " b", "-b", "- -b", "\u00b1b ");
        group(1, " 1", "- 1");
        group(0, " ", " - ");
    }

    private static void letters() {
        group('a', "a", "A", "\u00e1", "\u00c1", "abc", " a1", "a 1");
        group('z', "z", "Z", "\u00fa", "\u00da", "(Zoo");
        group('m', "m", "M1");
    }
}
