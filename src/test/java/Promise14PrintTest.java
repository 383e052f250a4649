public final class Promise14PrintTest {
    public static void main(String[] args) {
        faults();
        parts();
        fullStyle();
        pages();
        eachPage();
        wordsToSee();
        groups();
        tooLong();
        Check.finish();
    }

    private static void faults() {
        IndexSort x = new IndexSort();
        String[] styles = {"", "abc", "||", "|||%", "%|||", "%", "a%x|||", "|||a|", "||||%", "%%%|||", "|||%W", "%a||||"};
        int[] places = {0, 3, 2, 3, 0, 0, 1, 4, 3, 2, 3, 0};
        for (int k = 0; k < styles.length; k++) {
            Check.same("the style " + styles[k], "fault " + (-1 - places[k]), Check.printed(x, styles[k]));
        }
        Check.top(x, "tree");
        Check.same("made", "tree", Check.printed(x, "|%w||"));
        Check.top(x, "bush");
        Check.same("a fault", "fault -5", Check.printed(x, "|%w|"));
        Check.same("the out stays", "tree", Check.out(x));
    }

    private static void parts() {
        IndexSort x = new IndexSort();
        Check.same("no rows", "", Check.printed(x, "g|a|b|c"));
        int tree = Check.top(x, "Tree");
        int leaf = Check.entry(x, 1, tree, "leaf");
        Check.entry(x, 2, leaf, "vein\u00e1\n");
        Check.same("by levels", "<t>\nTree 100%\n-leaf-t\n--vein\u00e1\n\n",
            Check.printed(x, "<%g%w%p%s>%n|%w 100%%%n|-%w-%g%n|--%w%n"));
        Check.same("each may be empty", "", Check.printed(x, "|||"));
        Check.same("one alone", "Tree", Check.printed(x, "|%w||"));
        Check.same("an out that shrinks", "x", Check.printed(x, "||x|"));
    }

    private static void pages() {
        IndexSort x = new IndexSort();
        Check.top(x, "a");
        Check.same("without pages", "()", Check.printed(x, "|(%p)||"));
        int[][] told = {{0, 1}, {0, 3}, {0, 2}, {0, 3888}, {1, 10}, {1, 99999}, {1, 100}, {1, 30405},
            {2, 25}, {2, 26}, {2, 27}, {2, 52}, {2, 53}, {2, 702}};
        for (int[] one : told) {
            x.page(0, one[0], one[1]);
        }
        x.range(0, 7, false);
        x.range(0, 8, true);
        x.range(0, 1000, false);
        x.range(0, 1000, true);
        String all = "i-iii, mmmdccclxxxviii, 7-8, 10, 100, 1000, 30405, 99999, y-aa, az, ba, zz";
        Check.same("pages", all, Check.printed(x, "|%p||"));
        Check.same("twice", all + all, Check.printed(x, "|%p%p||"));
    }

    private static void eachPage() {
        int[] numbers = {1, 4, 5, 6, 9, 10, 40, 49, 50, 90, 99, 100, 400, 500, 900, 1000, 1444, 3999};
        String[] romans = {"i", "iv", "v", "vi", "ix", "x", "xl", "xlix", "l", "xc", "xcix", "c", "cd", "d", "cm", "m",
            "mcdxliv", "mmmcmxcix"};
        for (int k = 0; k < numbers.length; k++) {
            onePage(0, numbers[k], romans[k]);
        }
        for (int n : new int[] {1, 9, 10, 99, 100, 101, 999, 1000, 9999, 10000, 10001, 20000, 99999}) {
            onePage(1, n, Integer.toString(n));
        }
        int[] letters = {1, 2, 25, 26, 27, 28, 52, 53, 78, 79, 676, 677, 701, 702};
        String[] texts = {"a", "b", "y", "z", "aa", "ab", "az", "ba", "bz", "ca", "yz", "za", "zy", "zz"};
        for (int k = 0; k < letters.length; k++) {
            onePage(2, letters[k], texts[k]);
        }
    }

    private static void onePage(int kind, int n, String want) {
        IndexSort x = new IndexSort();
        x.entry(0, -1);
        x.page(0, kind, n);
        Check.same("page " + n + " of kind " + kind, want, Check.printed(x, "|%p||"));
    }

    private static void fullStyle() {
        IndexSort x = new IndexSort();
        Check.entry(x, 2, Check.entry(x, 1, Check.top(x, "a"), "b"), "c");
        Check.same("80 signs", "x".repeat(75) + "c", Check.printed(x, "|||" + "x".repeat(75) + "%w"));
        Check.same("80 signs, the last one a fault", "fault -80", Check.printed(x, "|||" + "x".repeat(76) + "%"));
        Check.same("80 signs, a bar too few", "fault -81", Check.printed(x, "||" + "x".repeat(78)));
    }

    private static void wordsToSee() {
        IndexSort x = new IndexSort();
        for (String words : new String[] {"a", "b", "c", "b", "a"}) {
            Check.top(x, words);
        }
        x.see(4, 2);
        x.see(0, 3);
        x.see(0, 1);
        x.see(0, 2);
        Check.same("each row once, in the order told", "a c; b.b .c .", Check.printed(x, "|%w %s.||"));
        Check.same("how many rows", "2", Integer.toString(x.row(0, 3)));
        x.sign(3, 'x');
        Check.same("no longer the same", "a c; bx; b.b .bx .c .", Check.printed(x, "|%w %s.||"));
        x.see(2, 2);
        x.see(0, 4);
        Check.same("a same one is a row to see", "a c; bx; b; a.b .bx .c .", Check.printed(x, "|%w %s.||"));
    }

    private static void groups() {
        IndexSort x = new IndexSort();
        Check.top(x, "b");
        Check.top(x, "Ba");
        Check.top(x, "7");
        Check.top(x, "12");
        Check.top(x, "--");
        Check.top(x, "");
        int c = Check.top(x, "c");
        Check.entry(x, 1, c, "b");
        Check.top(x, "cb");
        Check.same("before each other group", "[0],--,[1]7,12,[b]b,Ba,[c]c,b/c;cb,",
            Check.printed(x, "[%g]|%w,|%w/%g;|"));
    }

    private static void tooLong() {
        IndexSort x = new IndexSort();
        String twenty = "abcdefghijklmnopqrst";
        for (int e = 0; e < 10; e++) {
            Check.top(x, twenty.substring(0, 19) + (char) ('a' + e));
        }
        String thirty = "%w".repeat(30);
        Check.style(x, "|" + thirty + "||");
        Check.due("6000 bytes", 6000, () -> x.print());
        Check.due("the last byte", 'j', () -> x.at(5999));
        Check.dueThrow("no more", ArrayIndexOutOfBoundsException.class, () -> x.at(6000));
        Check.style(x, "!|" + thirty + "||");
        Check.dueThrow("6001 bytes", UnsupportedOperationException.class, () -> x.print());
        Check.due("the out stays", 'a', () -> x.at(0));
        Check.due("to its end", 'j', () -> x.at(5999));
        Check.same("and can be made again", "!", Check.printed(x, "!|||"));
        Check.dueThrow("shorter then", ArrayIndexOutOfBoundsException.class, () -> x.at(1));
    }
}
