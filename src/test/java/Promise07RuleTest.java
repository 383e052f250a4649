public final class Promise07RuleTest {
    public static void main(String[] args) {
        IndexSort x = new IndexSort();
        Check.dueThrow("rule(2, true)", IllegalArgumentException.class, () -> x.rule(2, true));
        Check.dueThrow("rule(-1, true)", IllegalArgumentException.class, () -> x.rule(-1, true));
        Check.due("DIGITS was on", 1, () -> x.rule(0, false));
        Check.due("DIGITS was off", 0, () -> x.rule(0, false));
        Check.due("WORDS was on", 1, () -> x.rule(1, false));
        Check.due("WORDS was off", 0, () -> x.rule(1, true));
        Check.due("WORDS was on again", 1, () -> x.rule(1, true));
        Check.due("DIGITS was off still", 0, () -> x.rule(0, true));
        digits();
        words();
        Check.finish();
    }

    private static void digits() {
        IndexSort x = new IndexSort();
        Check.top(x, "a10");
        Check.top(x, "a9");
        Check.same("numbers", "1 0", Check.order(x));
        x.rule(0, false);
        Check.same("each digit a number", "0 1", Check.order(x));
        x.rule(0, true);
        Check.same("numbers again", "1 0", Check.order(x));
    }

    private static void words() {
        IndexSort x = new IndexSort();
        Check.top(x, "ab");
        Check.top(x, "a c");
        Check.same("a break is first", "1 0", Check.order(x));
        x.rule(1, false);
        Check.same("no breaks", "0 1", Check.order(x));
        Check.top(x, "1 0");
        Check.top(x, "9");
        Check.same("a blank still parts numbers", "2 3 0 1", Check.order(x));
    }
}
