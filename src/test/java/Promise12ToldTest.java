public final class Promise12ToldTest {
    public static void main(String[] args) {
        kinds();
        ofJoined();
        wrongInputs();
        Check.finish();
    }

    private static void kinds() {
        IndexSort x = new IndexSort();
        Check.same("none", "", Check.warnings(x));
        for (int e = 0; e < 4; e++) {
            Check.top(x, "" + (char) ('z' - e));
        }
        Check.same("bare, by entries", "3:0:0 3:1:0 3:2:0 3:3:0", Check.warnings(x));
        x.page(1, 1, 9);
        x.see(2, 3);
        x.see(2, 1);
        x.see(2, 0);
        Check.same("to see, in the order told", "3:0:0 2:2:3 2:2:0 3:3:0", Check.warnings(x));
        x.range(2, 7, false);
        Check.same("a range that is not ended", "3:0:0 1:2:7 2:2:3 2:2:0 3:3:0", Check.warnings(x));
        x.range(2, 7, true);
        x.entry(1, 3);
        Check.same("with one under it", "3:0:0 2:2:3 2:2:0 3:4:0", Check.warnings(x));
        x.range(3, 4, false);
        Check.same("a begun range is a page", "3:0:0 2:2:0 1:3:4 3:4:0", Check.warnings(x));
    }

    private static void ofJoined() {
        IndexSort x = new IndexSort();
        for (String words : new String[] {"a", "b", "a", "b", "c", "c"}) {
            Check.top(x, words);
        }
        x.page(2, 0, 1);
        Check.same("a same one has pages for the first", "3:1:0 3:4:0", Check.warnings(x));
        x.see(3, 2);
        Check.same("or something to see", "3:4:0", Check.warnings(x));
        x.see(3, 0);
        x.see(3, 5);
        Check.same("of a same one, and that entry", "2:3:5 3:4:0", Check.warnings(x));
        x.entry(1, 5);
        Check.same("or one under it", "2:3:5 3:6:0", Check.warnings(x));
        x.range(1, 3, false);
        x.range(3, 8, false);
        Check.same("each not ended", "1:1:3 1:3:8 2:3:5 3:6:0", Check.warnings(x));
        x.sign(2, 'x');
        Check.same("no longer the same", "3:0:0 1:1:3 1:3:8 2:3:0 2:3:5 3:6:0", Check.warnings(x));
    }

    private static void wrongInputs() {
        IndexSort x = new IndexSort();
        x.entry(0, -1);
        Check.due("kind", 3, () -> x.told(0, 0));
        Check.due("entry", 0, () -> x.told(0, 1));
        Check.due("number", 0, () -> x.told(0, 2));
        Check.due("how many, whatever is asked", 1, () -> x.told(-1, 77));
        Check.due("how many, whatever is asked", 1, () -> x.told(-1, -77));
        int[][] none = {{1, 0}, {-2, 0}, {0, 3}, {0, -1}, {Integer.MAX_VALUE, 0}, {Integer.MIN_VALUE, 0},
            {0, Integer.MAX_VALUE}};
        for (int[] at : none) {
            Check.dueThrow("told(" + at[0] + ", " + at[1] + ")", IndexOutOfBoundsException.class,
                () -> x.told(at[0], at[1]));
        }
    }
}
