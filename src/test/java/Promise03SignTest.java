public final class Promise03SignTest {
    public static void main(String[] args) {
        Check.sentence("A sign behind an entry's words: how many they have.", Promise03SignTest::behindTheWords);
        Check.sentence("Their WORDS are SIGNS 0 .. 255", Promise03SignTest::signs);
        Check.sentence("Their WORDS are SIGNS 0 .. 255", Promise03SignTest::eachSign);
        Check.sentence("NoSuchElementException: there is no such entry.", Promise03SignTest::noEntry);
        Check.sentence("UnsupportedOperationException when they have 20.", Promise03SignTest::twentyAtMost);
        Check.finish();
    }

    private static void behindTheWords() {
        IndexSort x = new IndexSort();
        x.entry(0, -1);
        x.entry(0, -1);
        Check.due("the first", 1, () -> x.sign(0, 't'));
        Check.due("the second", 2, () -> x.sign(0, 'o'));
        Check.due("the first of another one", 1, () -> x.sign(1, 'z'));
        Check.due("the third", 3, () -> x.sign(0, 'p'));
        Check.same("the words", "top.z.", Check.printed(x, "|%w.||"));
    }

    private static void signs() {
        IndexSort x = new IndexSort();
        x.entry(0, -1);
        Check.due("sign(0, 0)", 1, () -> x.sign(0, 0));
        Check.due("sign(0, 255)", 2, () -> x.sign(0, 255));
        for (int c : Check.outside(0, 255)) {
            Check.refused("sign(0, " + c + ")", Check.ILLEGAL, Check::some, y -> y.sign(0, c));
        }
    }

    /** In thirteen entries of twenty signs each, each by an object of its own. */
    private static void eachSign() {
        for (int from = 0; from < 256; from += 20) {
            StringBuilder words = new StringBuilder();
            for (int c = from; c < from + 20 && c < 256; c++) {
                words.append((char) c);
            }
            Check.same("the words from " + from, words.toString(),
                Check.printed(Check.tops(words.toString()), "|%w||"));
        }
    }

    private static void noEntry() {
        IndexSort x = new IndexSort();
        Check.due("sign(0, 97) with none", Check.NO_ENTRY, () -> x.sign(0, 97));
        for (int e : Check.noEntries(5)) {
            Check.refused("sign(" + e + ", 97)", Check.NO_ENTRY, Check::some, y -> y.sign(e, 97));
            Check.refused("sign(" + e + ", 256): named first", Check.NO_ENTRY, Check::some, y -> y.sign(e, 256));
        }
    }

    private static void twenty(IndexSort x) {
        Check.some(x);
        Check.signs(x, 0, "abcdefghijklmnop");
    }

    private static void twentyAtMost() {
        IndexSort x = new IndexSort();
        x.entry(0, -1);
        for (int k = 1; k <= 20; k++) {
            char c = (char) ('a' + k);
            Check.due("sign " + k, k, () -> x.sign(0, c));
        }
        Check.same("the words", "bcdefghijklmnopqrstu", Check.printed(x, "|%w||"));
        Check.refused("the 21st", Check.FULL, Promise03SignTest::twenty, y -> y.sign(0, 'z'));
        Check.refused("the 21st, a byte 0", Check.FULL, Promise03SignTest::twenty, y -> y.sign(0, 0));
        Check.refused("the 21st, no sign", Check.ILLEGAL, Promise03SignTest::twenty, y -> y.sign(0, 256));
        Check.refused("the 21st, no sign", Check.ILLEGAL, Promise03SignTest::twenty, y -> y.sign(0, -1));
        IndexSort other = new IndexSort();
        twenty(other);
        Check.due("another one is not full", 5, () -> other.sign(4, 's'));
    }
}
