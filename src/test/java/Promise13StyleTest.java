public final class Promise13StyleTest {
    public static void main(String[] args) {
        Check.sentence("A sign 1 .. 127 behind the style", Promise13StyleTest::signs);
        Check.sentence("0: the style is gone: how many it has.", Promise13StyleTest::gone);
        Check.sentence("how many it has. IllegalArgumentException;", Promise13StyleTest::noSign);
        Check.sentence("UnsupportedOperationException when it has 80.", Promise13StyleTest::eightyAtMost);
        Check.finish();
    }

    private static void signs() {
        IndexSort x = Check.tops("a");
        Check.due("style(1)", 1, () -> x.style(1));
        Check.due("style(127)", 2, () -> x.style(127));
        Check.due("style('|')", 3, () -> x.style('|'));
        x.style('|');
        x.style('|');
        Check.due("print()", 2, () -> x.print());
        Check.due("a byte 1", 1, () -> x.at(0));
        Check.due("a byte 127", 127, () -> x.at(1));
        eachSign();
    }

    /** Each sign but % and |, in two styles. */
    private static void eachSign() {
        for (int from = 1; from < 128; from += 64) {
            StringBuilder style = new StringBuilder();
            for (int c = from; c < from + 64 && c < 128; c++) {
                style.append(c == '%' || c == '|' ? "" : "" + (char) c);
            }
            Check.same("signs from " + from, style.toString(), Check.printed(Check.tops("a"), style + "|||"));
        }
    }

    private static void gone() {
        IndexSort x = new IndexSort();
        Check.due("with none", 0, () -> x.style(0));
        Check.some(x);
        Check.due("gone", 0, () -> x.style(0));
        Check.due("without a style", -1, () -> x.print());
        Check.due("the out is not gone", 'b', () -> x.at(0));
        Check.due("the first one again", 1, () -> x.style('|'));
        Check.due("a style of one sign", -2, () -> x.print());
        Check.due("gone again", 0, () -> x.style(0));
        IndexSort full = new IndexSort();
        eighty(full);
        Check.due("a full one can go", 0, () -> full.style(0));
        Check.due("and be told anew", 1, () -> full.style('x'));
    }

    private static void noSign() {
        for (int c : new int[] {128, -1, 255, 256, Integer.MIN_VALUE, Integer.MAX_VALUE}) {
            Check.refused("style(" + c + ")", Check.ILLEGAL, Check::some, x -> x.style(c));
        }
    }

    private static void eighty(IndexSort x) {
        Check.some(x);
        Check.style(x, "<%g>|%w " + "x".repeat(65) + "|%w|%w!");
    }

    private static void eightyAtMost() {
        IndexSort x = new IndexSort();
        Check.some(x);
        x.style(0);
        for (int k = 1; k <= 80; k++) {
            int c = k > 77 ? '|' : 'x';
            Check.due("sign " + k, k, () -> x.style(c));
        }
        Check.due("77 signs of groups b and t", 154, () -> x.print());
        Check.refused("the 81st", Check.FULL, Promise13StyleTest::eighty, y -> y.style('x'));
        Check.refused("the 81st, a bar", Check.FULL, Promise13StyleTest::eighty, y -> y.style('|'));
        Check.refused("the 81st, no sign", Check.ILLEGAL, Promise13StyleTest::eighty, y -> y.style(128));
        Check.refused("the 81st, no sign", Check.ILLEGAL, Promise13StyleTest::eighty, y -> y.style(-1));
    }
}
