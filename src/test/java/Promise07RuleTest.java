public final class Promise07RuleTest {
    public static void main(String[] args) {
        Check.sentence("A rule, 0 DIGITS, 1 WORDS, is on, or off: what it was (1, 0).", Promise07RuleTest::whatItWas);
        Check.sentence("A rule, 0 DIGITS, 1 WORDS, is on, or off: what it was (1, 0). IllegalArgumentException.",
            Promise07RuleTest::noRule);
        Check.sentence("without it each digit a number by itself", Promise07RuleTest::digits);
        Check.sentence("with the rule WORDS each other sign a BREAK", Promise07RuleTest::words);
        Check.finish();
    }

    private static void whatItWas() {
        IndexSort x = new IndexSort();
        Check.due("DIGITS was on", 1, () -> x.rule(0, false));
        Check.due("DIGITS was off", 0, () -> x.rule(0, false));
        Check.due("WORDS was on", 1, () -> x.rule(1, false));
        Check.due("WORDS was off", 0, () -> x.rule(1, true));
        Check.due("WORDS was on again", 1, () -> x.rule(1, true));
        Check.due("DIGITS was off still", 0, () -> x.rule(0, true));
        Check.due("DIGITS was on again", 1, () -> x.rule(0, true));
    }

    private static void noRule() {
        for (int which : Check.outside(0, 1)) {
            Check.refused("rule(" + which + ", true)", Check.ILLEGAL, Check::some, x -> x.rule(which, true));
            Check.refused("rule(" + which + ", false)", Check.ILLEGAL, Check::some, x -> x.rule(which, false));
        }
    }

    private static void digits() {
        IndexSort x = Check.tops("a10", "a9");
        Check.same("numbers", "1 0", Check.order(x));
        x.rule(0, false);
        Check.same("each digit a number", "0 1", Check.order(x));
        x.rule(1, false);
        Check.same("whatever the other rule", "0 1", Check.order(x));
        x.rule(0, true);
        Check.same("numbers again", "1 0", Check.order(x));
    }

    private static void words() {
        IndexSort x = Check.tops("ab", "a c");
        Check.same("a break is first", "1 0", Check.order(x));
        x.rule(1, false);
        Check.same("no breaks", "0 1", Check.order(x));
        x.rule(0, false);
        Check.same("whatever the other rule", "0 1", Check.order(x));
        x.rule(1, true);
        Check.same("breaks again", "1 0", Check.order(x));
    }
}
