public final class Promise09RowTest {
    public static void main(String[] args) {
        IndexSort x = new IndexSort();
        int tree = Check.top(x, "Tree");
        int leaf = Check.entry(x, 1, tree, "9 leaves");
        int vein = Check.entry(x, 2, leaf, "vein");
        int other = Check.top(x, "Tree");
        x.page(tree, 1, 5);
        x.page(other, 1, 8);
        x.see(tree, leaf);
        x.see(other, leaf);
        x.see(other, vein);
        row(x, 0, "0 0 2 2 116");
        row(x, 1, "1 1 0 0 116");
        row(x, 2, "2 2 0 0 116");
        int[][] none = {{3, 0}, {-1, 0}, {0, 5}, {0, -1}, {Integer.MAX_VALUE, 0}, {0, Integer.MIN_VALUE}};
        for (int[] at : none) {
            Check.dueThrow("row(" + at[0] + ", " + at[1] + ")", IndexOutOfBoundsException.class,
                () -> x.row(at[0], at[1]));
        }
        groups();
        Check.finish();
    }

    private static void row(IndexSort x, int i, String want) {
        StringBuilder got = new StringBuilder();
        for (int what = 0; what < 5; what++) {
            got.append(what == 0 ? "" : " ").append(x.row(i, what));
        }
        Check.same("row " + i, want, got.toString());
    }

    private static void groups() {
        IndexSort x = new IndexSort();
        group(x, "", 0);
        group(x, "- ", 0);
        group(x, "" + (char) ('7' + 128), 0);
        group(x, "(7", 1);
        group(x, "00", 1);
        group(x, " Zoo", 'z');
        group(x, "a", 'a');
        group(x, "" + (char) ('Q' + 128), 'q');
        x.rule(0, false);
        group(x, "12", 1);
        x.rule(1, false);
        group(x, " 13", 1);
        group(x, "-b", 'b');
    }

    private static void group(IndexSort x, String words, int want) {
        int e = Check.top(x, words);
        int count = x.run();
        for (int i = 0; i < count; i++) {
            if (x.row(i, 0) == e) {
                int at = i;
                Check.due("the group of " + words, want, () -> x.row(at, 4));
                return;
            }
        }
        Check.same("a row of " + words, "there", "not there");
    }
}
