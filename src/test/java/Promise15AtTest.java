public final class Promise15AtTest {
    public static void main(String[] args) {
        IndexSort x = new IndexSort();
        Check.dueThrow("at(0) without an out", ArrayIndexOutOfBoundsException.class, () -> x.at(0));
        Check.top(x, "\0a\u00ff\u0080");
        Check.style(x, "|%w%n||");
        Check.due("print()", 5, () -> x.print());
        int[] bytes = {0, 'a', 255, 128, 10};
        for (int i = 0; i < bytes.length; i++) {
            int at = i;
            Check.due("at(" + i + ")", bytes[i], () -> x.at(at));
        }
        for (int i : new int[] {5, -1, 6000, Integer.MAX_VALUE, Integer.MIN_VALUE}) {
            Check.dueThrow("at(" + i + ")", ArrayIndexOutOfBoundsException.class, () -> x.at(i));
        }
        x.sign(0, 'b');
        x.style('z');
        Check.due("the out is as it was made", 10, () -> x.at(4));
        Check.dueThrow("and as long", ArrayIndexOutOfBoundsException.class, () -> x.at(5));
        Check.finish();
    }
}
