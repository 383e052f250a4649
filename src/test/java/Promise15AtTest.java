public final class Promise15AtTest {
    public static void main(String[] args) {
        Check.sentence("A byte of the out, 0 .. 255.", Promise15AtTest::bytes);
        Check.sentence("A byte of the out, 0 .. 255.", Promise15AtTest::asItWasMade);
        Check.sentence("A byte of the out, 0 .. 255. ArrayIndexOutOfBoundsException.", Promise15AtTest::outside);
        Check.finish();
    }

    private static void bytes() {
        IndexSort x = Check.tops("\0a\u00ff\u0080\u007f");
        Check.style(x, "|%w%n||");
        Check.due("print()", 6, () -> x.print());
        int[] bytes = {0, 'a', 255, 128, 127, 10};
        for (int i = 0; i < bytes.length; i++) {
            int at = i;
            Check.due("at(" + i + ")", bytes[i], () -> x.at(at));
        }
    }

    private static void asItWasMade() {
        IndexSort x = Check.tops("ab");
        Check.style(x, "|%w%n||");
        x.print();
        x.sign(0, 'c');
        x.style('z');
        x.page(0, 1, 1);
        Check.top(x, "b");
        Check.same("until it is made anew", "ab\n", Check.out(x));
        x.print();
        Check.same("made anew", "abc\nb\n", Check.out(x));
    }

    private static void outside() {
        IndexSort none = new IndexSort();
        for (int i : new int[] {0, -1, 1, 5999, 6000}) {
            Check.due("at(" + i + ") without an out", Check.OUTSIDE_THE_OUT, () -> none.at(i));
        }
        IndexSort x = new IndexSort();
        Check.some(x);
        int size = x.print();
        Check.due("the last byte", 10, () -> x.at(size - 1));
        for (int i : new int[] {size, size + 1, -1, -2, 5999, 6000, Integer.MAX_VALUE, Integer.MIN_VALUE}) {
            Check.refused("at(" + i + ")", Check.OUTSIDE_THE_OUT, Check::some, y -> y.at(i));
        }
        Check.same("an out of no bytes", "", Check.printed(x, "|||"));
        Check.due("at(0) of it", Check.OUTSIDE_THE_OUT, () -> x.at(0));
    }
}
