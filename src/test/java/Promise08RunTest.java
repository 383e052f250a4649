public final class Promise08RunTest {
    public static void main(String[] args) {
        Check.sentence("How many ROWS there are.", Promise08RunTest::howMany);
        Check.sentence("those of level 0 in ORDER (of equal ones the earlier one first), behind each those under it, "
            + "likewise", Promise08RunTest::inOrder);
        Check.sentence("that has the same level, the same words", Promise08RunTest::sameWords);
        Check.sentence("that has the same level, the same words", Promise08RunTest::notTheSame);
        Check.sentence("and is under the same one (or one that is the same as that)", Promise08RunTest::underTheSame);
        Check.sentence("an entry is the SAME as an earlier one (the first such)", Promise08RunTest::theFirstSuch);
        Check.sentence("It counts for that: its pages, its words to see, what is under it.",
            Promise08RunTest::countsForThat);
        Check.finish();
    }

    private static void howMany() {
        IndexSort x = new IndexSort();
        Check.due("none", 0, () -> x.run());
        x.entry(0, -1);
        Check.due("one", 1, () -> x.run());
        x.entry(1, 0);
        x.entry(2, 1);
        Check.due("one of each level", 3, () -> x.run());
        IndexSort full = new IndexSort();
        for (int e = 0; e < 80; e++) {
            full.entry(0, -1);
        }
        Check.due("80 that are the same", 1, () -> full.run());
        for (int e = 1; e < 80; e++) {
            Check.signs(full, e, Integer.toString(80 - e));
        }
        Check.due("80 that are not", 80, () -> full.run());
        Check.due("the first row", 0, () -> full.row(0, 0));
        Check.due("the second row", 79, () -> full.row(1, 0));
        Check.due("the last row", 1, () -> full.row(79, 0));
    }

    private static void inOrder() {
        IndexSort x = Check.tops("tree", "bush", "shrub");
        Check.same("level 0", "1 2 0", Check.order(x));
        Check.entry(x, 1, 0, "leaf");
        Check.entry(x, 1, 1, "root");
        Check.entry(x, 1, 0, "bark");
        Check.same("behind each those under it", "1 4 2 0 5 3", Check.order(x));
        Check.entry(x, 2, 3, "vein");
        Check.entry(x, 2, 5, "crack");
        Check.entry(x, 2, 3, "edge");
        Check.same("likewise", "1 4 2 0 5 7 3 8 6", Check.order(x));
        x.rule(1, false);
        x.sign(1, 'z');
        x.sign(2, 'z');
        Check.same("other words, the same order", "1 4 2 0 5 7 3 8 6", Check.order(x));
        Check.signs(x, 4, " of all");
        x.entry(0, -1);
        Check.same("one without words is first", "9 1 4 2 0 5 7 3 8 6", Check.order(x));
    }

    private static void sameWords() {
        IndexSort x = Check.tops("a", "a");
        Check.due("the same", 1, () -> x.run());
        x.sign(1, 'b');
        Check.due("no longer the same", 2, () -> x.run());
        x.sign(0, 'b');
        Check.due("the same again", 1, () -> x.run());
        Check.due("two without words", 1, () -> Check.tops("", "").run());
        Check.due("two of 20 signs", 1, () -> Check.tops("abcdefghijklmnopqrst", "abcdefghijklmnopqrst").run());
    }

    private static void notTheSame() {
        String[][] pairs = {{"", "a"}, {"a", ""}, {"a", "A"}, {"a", "\u00e1"}, {"a", "a "}, {"a", " a"}, {"7", "07"},
            {"a b", "a-b"}, {"ab", "abc"}, {"abc", "ab"}, {"ab", "bb"}, {"", "\0"}, {"\0", "\u0080"},
            {"abcdefghijklmnopqrst", "abcdefghijklmnopqrsT"}, {"abcdefghijklmnopqrs", "abcdefghijklmnopqrst"}};
        for (String[] pair : pairs) {
            Check.due(pair[0] + " and " + pair[1], 2, () -> Check.tops(pair).run());
        }
        IndexSort x = Check.tops("a");
        Check.entry(x, 1, 0, "a");
        Check.entry(x, 2, 1, "a");
        Check.same("other levels", "0 1 2", Check.order(x));
    }

    private static void underTheSame() {
        IndexSort x = Check.tops("a", "b", "a");
        Check.entry(x, 1, 0, "x");
        Check.entry(x, 1, 0, "x");
        Check.same("under one", "0 3 1", Check.order(x));
        Check.entry(x, 1, 1, "x");
        Check.same("under another one", "0 3 1 5", Check.order(x));
        Check.entry(x, 1, 2, "x");
        Check.same("under one that is the same", "0 3 1 5", Check.order(x));
        Check.entry(x, 2, 6, "y");
        Check.entry(x, 2, 4, "y");
        Check.entry(x, 2, 3, "y");
        Check.same("of level 2", "0 3 7 1 5", Check.order(x));
        Check.entry(x, 2, 5, "y");
        Check.same("of level 2 under another one", "0 3 7 1 5 10", Check.order(x));
        x.sign(2, 'z');
        Check.same("no longer under the same", "0 3 8 2 6 7 1 5 10", Check.order(x));
    }

    private static void theFirstSuch() {
        IndexSort x = Check.tops("b", "a", "a", "b", "a");
        Check.same("the first ones", "1 0", Check.order(x));
        x.page(4, 1, 3);
        x.page(2, 1, 9);
        Check.same("count for the first", "1:3-3 1:9-9", Check.locators(x, 0));
        x.sign(1, 'c');
        Check.same("the next one is the first then", "2 1 0", Check.order(x));
        Check.same("with its pages", "1:3-3 1:9-9", Check.locators(x, 0));
    }

    private static void countsForThat() {
        IndexSort x = Check.tops("a", "b", "a", "b");
        x.page(2, 1, 4);
        x.see(2, 3);
        Check.entry(x, 1, 2, "u");
        Check.due("its pages", 1, () -> x.row(0, 2));
        Check.due("its words to see", 1, () -> x.row(0, 3));
        Check.same("what is under it", "0 4 1", Check.order(x));
        Check.due("nothing of that for another one", 0, () -> x.row(2, 2));
    }
}
