/**
 * What an object answers, as one text: two objects that differ in something differ in it. At its end it tells the
 * object more, as only that shows how full everything is; the object is used up then.
 */
final class Whole {
    /** Of many rows and entries the first and the last ones, so that an object is not asked more than 512 times. */
    private static final int FEW = 4;

    private final IndexSort x;
    private final StringBuilder text = new StringBuilder();

    private Whole(IndexSort x) {
        this.x = x;
    }

    static String of(IndexSort x) {
        Whole whole = new Whole(x);
        whole.out();
        whole.rows();
        whole.warnings();
        whole.print();
        whole.rules();
        whole.told();
        whole.warnings();
        return whole.text.toString();
    }

    private void add(String name, Check.Call asked) {
        text.append(name).append(' ').append(Check.answer(asked)).append('\n');
    }

    private static boolean few(int i, int count) {
        return i < FEW || i >= count - 2;
    }

    private void out() {
        for (int i : new int[] {0, 1, 2, 3, 4, 5, 10, 20, 40, 60, 80, 100, 500, 1000, 5998, 5999, 6000}) {
            add("at " + i, () -> x.at(i));
        }
    }

    private void rows() {
        int count = x.run();
        text.append("rows ").append(count).append('\n');
        for (int i = 0; i < count; i++) {
            int row = i;
            for (int what = 0; few(row, count) && what < 5; what++) {
                int asked = what;
                add("row " + row + " " + what, () -> x.row(row, asked));
            }
            for (int j = 0; few(row, count) && j < 2; j++) {
                int locator = j;
                add("from " + row + " " + j, () -> x.locator(row, locator, 1));
                add("to " + row + " " + j, () -> x.locator(row, locator, 2));
            }
        }
    }

    private void warnings() {
        int count = x.told(-1, 0);
        text.append("warnings ").append(count).append('\n');
        for (int i = 0; i < count; i++) {
            int warning = i;
            for (int what = 0; few(warning, count) && what < 3; what++) {
                int asked = what;
                add("told " + warning + " " + what, () -> x.told(warning, asked));
            }
        }
    }

    private void print() {
        add("print", () -> x.print());
        out();
        add("style", () -> x.style('%'));
    }

    private void rules() {
        add("rule 0", () -> x.rule(0, true));
        add("rule 1", () -> x.rule(1, true));
    }

    /** The next entry is told first: its number is how many there are. */
    private void told() {
        String next = Check.answer(() -> x.entry(0, -1));
        text.append("entry ").append(next).append('\n');
        int count = next.startsWith("throws") ? 80 : Integer.parseInt(next) + 1;
        for (int e = 0; e < count; e++) {
            int entry = e;
            if (few(entry, count)) {
                add("see " + entry, () -> x.see(entry, (entry + 1) % count));
                add("see the last one " + entry, () -> x.see(entry, count - 1));
                add("range ends " + entry, () -> x.range(entry, 99999, true));
                add("page " + entry, () -> x.page(entry, 2, 702));
                add("sign " + entry, () -> x.sign(entry, 'q'));
            }
        }
    }
}
