public final class Promise08RunTest {
    public static void main(String[] args) {
        IndexSort x = new IndexSort();
        Check.due("none", 0, () -> x.run());
        int tree = Check.top(x, "tree");
        int leaf = Check.entry(x, 1, tree, "leaf");
        Check.top(x, "bush");
        Check.due("three rows", 3, () -> x.run());
        Check.same("in order, what is under each behind it", "2 0 1", Check.order(x));
        int again = Check.top(x, "tree");
        Check.due("a same one is no row", 3, () -> x.run());
        int leafAgain = Check.entry(x, 1, again, "leaf");
        Check.due("nor one under a same one", 3, () -> x.run());
        Check.entry(x, 1, again, "bark");
        Check.same("under a same one", "2 0 5 1", Check.order(x));
        Check.entry(x, 2, leafAgain, "vein");
        Check.entry(x, 2, leaf, "edge");
        Check.entry(x, 2, leaf, "vein");
        Check.same("of level 2", "2 0 5 1 7 6", Check.order(x));
        x.sign(again, 's');
        Check.same("no longer the same", "2 0 1 7 8 3 5 4 6", Check.order(x));
        notTheSame();
        Check.finish();
    }

    private static void notTheSame() {
        IndexSort x = new IndexSort();
        int a = Check.top(x, "a");
        int b = Check.top(x, "b");
        Check.entry(x, 1, a, "a");
        Check.entry(x, 1, b, "a");
        Check.top(x, "A");
        Check.top(x, "a ");
        Check.top(x, "a" + (char) 225);
        Check.same("other level, other above, other case, blank, mark", "0 2 5 4 6 1 3", Check.order(x));
        x.entry(0, -1);
        x.entry(0, -1);
        Check.due("two without words are the same", 8, () -> x.run());
        Check.due("and the first row", 7, () -> x.row(0, 0));
        Check.top(x, "abcdefghijklmnopqrst");
        Check.top(x, "abcdefghijklmnopqrst");
        Check.due("so are two of 20 signs", 9, () -> x.run());
        Check.top(x, "abcdefghijklmnopqrsT");
        Check.due("but not when the last one differs", 10, () -> x.run());
    }
}
