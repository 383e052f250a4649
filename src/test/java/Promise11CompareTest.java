import java.util.NoSuchElementException;

public final class Promise11CompareTest {
    private static final char MARK = 128;

    public static void main(String[] args) {
        IndexSort x = new IndexSort();
        x.entry(0, -1);
        Check.dueThrow("compare(0, 1)", NoSuchElementException.class, () -> x.compare(0, 1));
        Check.dueThrow("compare(1, 0)", NoSuchElementException.class, () -> x.compare(1, 0));
        Check.dueThrow("compare(-1, 0)", NoSuchElementException.class, () -> x.compare(-1, 0));
        Check.due("compare(0, 0)", 0, () -> x.compare(0, 0));
        keys();
        numbers();
        equalKeys();
        withoutRules();
        levels();
        Check.finish();
    }

    /** Each words before those behind it, by both rules. */
    private static void ascending(boolean digits, boolean breaks, String... words) {
        IndexSort x = new IndexSort();
        x.rule(0, digits);
        x.rule(1, breaks);
        for (String one : words) {
            Check.top(x, one);
        }
        for (int a = 0; a < words.length; a++) {
            for (int b = 0; b < words.length; b++) {
                int left = a;
                int right = b;
                Check.due("compare " + words[a] + " with " + words[b], Integer.compare(a, b),
                    () -> x.compare(left, right));
            }
        }
    }

    private static void keys() {
        ascending(true, true, "", "a", "a 1", "a b", "a1", "aa", "ab", "b");
        ascending(true, true, "1", "1 z", "1a", "a");
        ascending(true, true, "a" + (char) ('1' + MARK) + "b", "a1");
        ascending(true, true, "\u00e1b", "Ac", "\u00c1d");
        ascending(true, true, "a - z", "(aa)", "!z");
    }

    private static void numbers() {
        ascending(true, true, "2", "10", "11", "100");
        ascending(true, true, "a0", "a01", "a1", "a002");
        ascending(true, true, "18446744073709551615", "18446744073709551616", "99999999999999999998",
            "99999999999999999999");
        ascending(true, true, "9223372036854775807", "9223372036854775808", "18446744073709551617");
        ascending(true, true, "00000000000000000000", "00000000000000000001");
        ascending(true, true, "1 2", "12");
    }

    private static void equalKeys() {
        ascending(true, true, "a", "\u00e1", "A", "\u00c1");
        ascending(true, true, "z", "\u00fa", "Z", "\u00da");
        ascending(true, true, "a", "a ", "a-", "a-" + MARK);
        ascending(true, true, "- a", "a");
        ascending(true, true, "a b", "a-b", "a_b");
        ascending(true, true, "aB", "\u00e1b", "Ab");
        ascending(true, true, "007", "07", "7");
        ascending(true, true, " ", "" + (char) (' ' + MARK), "@", "[", "`", "{");
    }

    private static void withoutRules() {
        ascending(false, true, "10", "2", "21", "3");
        ascending(false, true, "0", "00", "1", "10");
        ascending(true, false, "a1", "aa", "a b", "ab", "ac");
        ascending(true, false, "1 2", "2", "12");
        ascending(false, false, "1 2", "12", "2");
    }

    private static void levels() {
        IndexSort x = new IndexSort();
        int a = Check.top(x, "b");
        int b = Check.entry(x, 1, a, "a");
        int c = Check.entry(x, 2, b, "b");
        Check.due("levels do not matter", 1, () -> x.compare(a, b));
        Check.due("same words", 0, () -> x.compare(a, c));
    }
}
