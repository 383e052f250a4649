public final class Promise01NewObjectTest {
    public static void main(String[] args) {
        Check.sentence("No entries, no style, no out; the rules DIGITS and WORDS are on.",
            Promise01NewObjectTest::nothingYet);
        Check.sentence("No entries, no style, no out; the rules DIGITS and WORDS are on.",
            Promise01NewObjectTest::eachByItself);
        Check.sentence("An object is used for at most 512 calls after it has been made",
            Promise01NewObjectTest::the512thCall);
        Check.finish();
    }

    private static void nothingYet() {
        IndexSort x = new IndexSort();
        Check.due("run()", 0, () -> x.run());
        Check.due("told(-1, 0)", 0, () -> x.told(-1, 0));
        Check.due("row(0, 0)", Check.OUTSIDE, () -> x.row(0, 0));
        Check.due("locator(0, 0, 0)", Check.OUTSIDE, () -> x.locator(0, 0, 0));
        Check.due("told(0, 0)", Check.OUTSIDE, () -> x.told(0, 0));
        Check.due("compare(0, 0)", Check.NO_ENTRY, () -> x.compare(0, 0));
        Check.due("at(0)", Check.OUTSIDE_THE_OUT, () -> x.at(0));
        Check.due("print() without a style", -1, () -> x.print());
        Check.due("style('a') is the first sign", 1, () -> x.style('a'));
        Check.due("rule(0, true) was on", 1, () -> x.rule(0, true));
        Check.due("rule(1, true) was on", 1, () -> x.rule(1, true));
        Check.due("the first entry", 0, () -> x.entry(0, -1));
    }

    private static void eachByItself() {
        IndexSort before = new IndexSort();
        IndexSort x = new IndexSort();
        Check.some(x);
        Check.same("one made before", Whole.of(new IndexSort()), Whole.of(before));
        IndexSort never = new IndexSort();
        Check.some(never);
        Check.same("the first one", Whole.of(never), Whole.of(x));
    }

    /** 80 entries, 426 signs of words and 5 of the style: the next call is the 512th. */
    private static void the512thCall() {
        IndexSort x = new IndexSort();
        for (int e = 0; e < 80; e++) {
            String words = "" + (char) ('a' + e / 26) + (char) ('a' + e % 26) + "xyzx";
            Check.top(x, e < 26 ? words : words.substring(0, 5));
        }
        for (char c : "|%w||".toCharArray()) {
            x.style(c);
        }
        Check.due("print()", 426, () -> x.print());
    }
}
