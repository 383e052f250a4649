public final class Promise11CompareTest {
    public static void main(String[] args) {
        Check.sentence("Whether an entry's words are before another one's in ORDER (-1), behind it (1), or the same (0).",
            Promise11CompareTest::beforeBehindSame);
        Check.sentence("or the same (0). NoSuchElementException.", Promise11CompareTest::noEntry);
        Check.sentence("each letter one, without case and mark", Promise11CompareTest::letters);
        Check.sentence("LETTERS are a .. z and A .. Z, marked or not", Promise11CompareTest::whatIsALetter);
        Check.sentence("DIGITS 0 .. 9, not marked", Promise11CompareTest::whatIsADigit);
        Check.sentence("a sign of 128 or more is that less 128, MARKED", Promise11CompareTest::marked);
        Check.sentence("with the rule DIGITS each longest row of digits one NUMBER", Promise11CompareTest::numbers);
        Check.sentence("(its value, however many digits there are)", Promise11CompareTest::manyDigits);
        Check.sentence("without it each digit a number by itself", Promise11CompareTest::withoutDigits);
        Check.sentence("with the rule WORDS each other sign a BREAK", Promise11CompareTest::breaks);
        Check.sentence("(several one behind the other are one; none at the ends)", Promise11CompareTest::severalBreaks);
        Check.sentence("(several one behind the other are one; none at the ends)", Promise11CompareTest::breaksAtTheEnds);
        Check.sentence("none at the ends), without it none", Promise11CompareTest::withoutWords);
        Check.sentence("where one key ends it is first", Promise11CompareTest::keyEnds);
        Check.sentence("a break is before a number, numbers (by value) before letters (a first)",
            Promise11CompareTest::units);
        Check.sentence("Of equal keys it is by the first place at which the words differ", Promise11CompareTest::firstPlace);
        Check.sentence("where one ends it is first; else the one that is less", Promise11CompareTest::wordsEnd);
        Check.sentence("by the sign without its mark, a great letter as its small one", Promise11CompareTest::lessSign);
        Check.sentence("then a small letter before a great one; then not marked before marked",
            Promise11CompareTest::caseThenMark);
        Check.finish();
    }

    /** Each words before those behind it. */
    private static void ascending(boolean digits, boolean breaks, String... words) {
        IndexSort x = Check.tops(words);
        x.rule(0, digits);
        x.rule(1, breaks);
        for (int a = 0; a < words.length; a++) {
            for (int b = 0; b < words.length; b++) {
                int left = a;
                int right = b;
                Check.due("compare " + words[a] + " with " + words[b], Integer.compare(a, b),
                    () -> x.compare(left, right));
            }
        }
    }

    private static void ascending(String... words) {
        ascending(true, true, words);
    }

    private static void ascendingByAllRules(String... words) {
        for (int rules = 0; rules < 4; rules++) {
            ascending(rules % 2 == 0, rules / 2 == 0, words);
        }
    }

    private static void beforeBehindSame() {
        IndexSort x = Check.tops("b", "a", "b");
        Check.entry(x, 1, 0, "a");
        Check.entry(x, 2, 3, "b");
        Check.due("behind", 1, () -> x.compare(0, 1));
        Check.due("before", -1, () -> x.compare(1, 0));
        Check.due("itself", 0, () -> x.compare(1, 1));
        Check.due("a same one", 0, () -> x.compare(0, 2));
        Check.due("the same words of another level", 0, () -> x.compare(1, 3));
        Check.due("whatever the levels", -1, () -> x.compare(3, 4));
        IndexSort none = Check.tops("", "");
        Check.due("both without words", 0, () -> none.compare(0, 1));
        IndexSort full = Check.tops("abcdefghijklmnopqrst", "abcdefghijklmnopqrst", "abcdefghijklmnopqrsu");
        Check.due("20 signs", 0, () -> full.compare(0, 1));
        Check.due("the 20th differs", -1, () -> full.compare(0, 2));
    }

    private static void noEntry() {
        IndexSort x = new IndexSort();
        Check.due("compare(0, 0) with none", Check.NO_ENTRY, () -> x.compare(0, 0));
        for (int e : Check.noEntries(5)) {
            Check.refused("compare(" + e + ", 0)", Check.NO_ENTRY, Check::some, y -> y.compare(e, 0));
            Check.refused("compare(0, " + e + ")", Check.NO_ENTRY, Check::some, y -> y.compare(0, e));
            Check.refused("compare(" + e + ", " + e + ")", Check.NO_ENTRY, Check::some, y -> y.compare(e, e));
        }
        IndexSort y = new IndexSort();
        Check.some(y);
        Check.due("the last one", 1, () -> y.compare(4, 3));
    }

    private static void letters() {
        ascendingByAllRules("\u00e1b", "Ac", "\u00c1d", "ae");
        ascendingByAllRules("A", "b", "C", "\u00e4", "\u00c5", "Z");
    }

    /** Next to a, z, A, Z, and marked, there are none: they have no key. */
    private static void whatIsALetter() {
        ascendingByAllRules("@", "\u00c0", "[", "\u00db", "`", "\u00e0", "{", "\u00fb", "0", "a", "\u00e1", "A", "\u00c1",
            "z", "\u00fa", "Z", "\u00da");
    }

    private static void whatIsADigit() {
        ascendingByAllRules("/", "\u00af", "\u00b0", "\u00b9", ":", "\u00ba", "0", "9", "a");
        ascending("a\u00b1b", "a1", "ab");
        ascending("9\u00b19", "99");
    }

    private static void marked() {
        ascendingByAllRules("\0", "\u0080", "\u0001", "\u0081", "~", "\u00fe", "\u007f", "\u00ff");
    }

    private static void numbers() {
        ascending("0", "1", "2", "9", "10", "11", "99", "100");
        ascending("a0", "a01", "a1", "a002", "a3");
        ascending("1 2", "1a", "12");
        ascending("a9b", "a10a", "a10b");
        ascending("2b", "02c");
    }

    private static void manyDigits() {
        ascending("18446744073709551615", "18446744073709551616", "99999999999999999998", "99999999999999999999");
        ascending("2147483647", "2147483648", "4294967295", "4294967296", "4294967297");
        ascending("9223372036854775807", "9223372036854775808", "18446744073709551617");
        ascending("0", "00000000000000000000", "00000000000000000001", "1", "00000000000000000002");
        ascending("00000000000000000009", "9", "10");
        ascending("0000000000000000009a", "9b");
    }

    private static void withoutDigits() {
        ascending(false, true, "10", "2", "21", "3");
        ascending(false, true, "0", "00", "000", "01", "1", "10");
        ascending(false, true, "1", "1 2", "12", "1a");
        ascending(false, true, "00000000000000000000", "00000000000000000001", "0000000000000000001", "9");
        ascending(false, false, "1 2", "12", "2");
    }

    private static void breaks() {
        ascending("a b", "a1", "aa");
        ascending("a\0b", "a b", "a-b", "a@b", "a[b", "a{b", "a\u007fb", "ab");
        ascending("a\u0080b", "a\u00b0b", "a\u00ffb", "ab");
        ascending("1 2", "1 a", "12");
    }

    private static void severalBreaks() {
        ascending("a  b", "a - c", "a d", "a----e");
        ascending("a" + " ".repeat(18) + "b", "a c");
        ascending("a  b  c", "a b d", "ab");
    }

    private static void breaksAtTheEnds() {
        ascending(" ab", "ac", " ad ", "ae", "(af)", "ag");
        ascending("a ", "a 1");
        ascending("--a1", "a2--");
        ascending("a ", "ab");
        ascending("a" + " ".repeat(19), "a b");
        ascending(" ".repeat(19) + "a", "a b", "b");
    }

    private static void withoutWords() {
        ascending(true, false, "aa", "a b", "ab", "a-c", "ac", "a d");
        ascending(true, false, "1 2", "1a", "2", "12");
        ascending(true, false, "1 2", "1-2", "1-3");
        ascending(true, false, " a", "(a)", "a", "a ");
        ascending(true, false, "12a", "12 b");
    }

    private static void keyEnds() {
        ascending("", "a", "a b", "a1", "aa");
        ascending("1", "1 1", "1a");
        ascending("---", "1");
        ascending("abcdefghijklmnopqrs", "abcdefghijklmnopqrst");
        ascending(false, true, "1", "11", "111");
        ascending(true, false, "a-", "a-1", "a-a");
    }

    private static void units() {
        ascending("x 1", "x a", "x1", "x2", "x10", "xa", "xb", "xz");
        ascending("0", "99999999999999999999", "a");
        ascending("a 9", "a 10", "a1", "aa");
    }

    private static void firstPlace() {
        ascending("aB", "\u00e1b", "Ab");
        ascending("a-B", "a\u00adb", "A-b");
        ascending("a b c", "a b-c", "a-b c");
        ascending("aba ", "abA", "abA-");
        ascending("007", "07", "7");
    }

    private static void wordsEnd() {
        ascending("a", "a ", "a  ", "a-");
        ascending("", " ", "  ", "-");
        ascending("a\0", "a\0\0");
        ascending("7.", "7..");
        ascending("abcdefghijklmnopqrs", "abcdefghijklmnopqrs.");
    }

    /** A great letter counts as its small one: it is behind [ and _, which lie between them. */
    private static void lessSign() {
        ascending("_A", "A_");
        ascending("[a", "a[");
        ascending("[A", "A[");
        ascending("`Z", "Z`");
        ascending("A{", "{A");
        ascending("a b", "a-b", "a\u00adb", "a.b", "a_b");
        ascending(" a", "\u00a0a", "!a", "\u00a1a", "a");
        ascending("01", "1");
    }

    private static void caseThenMark() {
        ascending("a", "\u00e1", "A", "\u00c1");
        ascending("z", "\u00fa", "Z", "\u00da");
        ascending("m", "\u00ed", "M", "\u00cd");
        ascending("-", "\u00ad");
        ascending("@", "\u00c0", "[", "\u00db");
        ascending("ab", "a\u00e2", "aB", "a\u00c2");
    }
}
