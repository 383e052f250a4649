/** Each call that names several exceptions, where all of them fit, then all but the first, and so on. */
public final class TermsRefusedTest {
    public static void main(String[] args) {
        Check.sentence("A call that throws changes nothing; where several exceptions that a call names fit, "
            + "it is the one that it names first.", TermsRefusedTest::namedFirst);
        Check.sentence("NoSuchElementException: there is no such entry.", TermsRefusedTest::noSuchEntry);
        Check.finish();
    }

    /** 80 entries; of the first one all that it can have; a full style. */
    private static void full(IndexSort x) {
        for (int e = 0; e < 80; e++) {
            x.entry(0, -1);
        }
        Check.signs(x, 0, "abcdefghijklmnopqrst");
        for (int k = 1; k <= 20; k++) {
            x.page(0, 1, 2 * k);
        }
        for (int k = 1; k <= 5; k++) {
            x.see(0, k);
        }
        Check.style(x, "x|%w|" + "y".repeat(74) + "|");
        x.print();
    }

    private static void refused(String call, String want, Check.Ask asked) {
        Check.refused(call, want, TermsRefusedTest::full, asked);
    }

    private static void namedFirst() {
        refused("entry(3, 80)", Check.NO_ENTRY, x -> x.entry(3, 80));
        refused("entry(0, 80)", Check.NO_ENTRY, x -> x.entry(0, 80));
        refused("entry(3, -1)", Check.ILLEGAL, x -> x.entry(3, -1));
        refused("entry(0, 0)", Check.ILLEGAL, x -> x.entry(0, 0));
        refused("entry(0, -1)", Check.FULL, x -> x.entry(0, -1));
        refused("sign(80, 256)", Check.NO_ENTRY, x -> x.sign(80, 256));
        refused("sign(0, 256)", Check.ILLEGAL, x -> x.sign(0, 256));
        refused("sign(0, 255)", Check.FULL, x -> x.sign(0, 255));
        refused("page(80, 3, 0)", Check.NO_ENTRY, x -> x.page(80, 3, 0));
        refused("page(0, 3, 0)", Check.ILLEGAL, x -> x.page(0, 3, 0));
        refused("page(0, 1, 1)", Check.FULL, x -> x.page(0, 1, 1));
        refused("range(80, 0, false)", Check.NO_ENTRY, x -> x.range(80, 0, false));
        refused("range(0, 0, false)", Check.ILLEGAL, x -> x.range(0, 0, false));
        refused("range(0, 1, false)", Check.FULL, x -> x.range(0, 1, false));
        refused("see(0, 80)", Check.NO_ENTRY, x -> x.see(0, 80));
        refused("see(0, 79)", Check.FULL, x -> x.see(0, 79));
        refused("style(128)", Check.ILLEGAL, x -> x.style(128));
        refused("style(127)", Check.FULL, x -> x.style(127));
    }

    private static void noSuchEntry() {
        IndexSort x = new IndexSort();
        for (int e = 0; e < 80; e++) {
            int entry = e;
            Check.due("sign(" + e + ", 97) before it is there", Check.NO_ENTRY, () -> x.sign(entry, 97));
            x.entry(0, -1);
            Check.due("sign(" + e + ", 97)", 1, () -> x.sign(entry, 97));
        }
        Check.due("the last one's page", 1, () -> x.page(79, 1, 1));
        Check.due("the last one's range", 1, () -> x.range(79, 1, false));
        Check.due("the last one to see", 1, () -> x.see(0, 79));
        Check.due("to see at the last one", 1, () -> x.see(79, 0));
        Check.due("the last one compared", 0, () -> x.compare(79, 0));
    }
}
