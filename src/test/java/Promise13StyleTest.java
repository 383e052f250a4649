public final class Promise13StyleTest {
    public static void main(String[] args) {
        IndexSort x = new IndexSort();
        Check.dueThrow("style(-1)", IllegalArgumentException.class, () -> x.style(-1));
        Check.dueThrow("style(128)", IllegalArgumentException.class, () -> x.style(128));
        Check.due("gone, with none", 0, () -> x.style(0));
        Check.due("style(1)", 1, () -> x.style(1));
        Check.due("style(127)", 2, () -> x.style(127));
        Check.due("gone", 0, () -> x.style(0));
        for (int k = 1; k <= 80; k++) {
            int due = k;
            Check.due("sign " + k, due, () -> x.style(due < 78 ? 'x' : '|'));
        }
        Check.dueThrow("the 81st", UnsupportedOperationException.class, () -> x.style('x'));
        Check.dueThrow("the 81st, no sign", IllegalArgumentException.class, () -> x.style(128));
        Check.top(x, "a");
        Check.due("nothing has changed", 77, () -> x.print());
        Check.due("a full one can go", 0, () -> x.style(0));
        Check.due("without a style", -1, () -> x.print());
        Check.due("the first one again", 1, () -> x.style('|'));
        Check.finish();
    }
}
