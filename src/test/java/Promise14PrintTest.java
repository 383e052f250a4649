public final class Promise14PrintTest {
    private static final String THIRTY_TIMES = "%w".repeat(30);

    public static void main(String[] args) {
        Check.sentence("THE OUT is made: how many bytes", Promise14PrintTest::howManyBytes);
        Check.sentence("-1 minus the place of the style's first fault", Promise14PrintTest::firstFault);
        Check.sentence("% before another sign, or at the end, at that %", Promise14PrintTest::beforeAnotherSign);
        Check.sentence("% before another sign, or at the end, at that %", Promise14PrintTest::atTheEnd);
        Check.sentence("a fourth | at it", Promise14PrintTest::aFourthBar);
        Check.sentence("fewer than three, at the end", Promise14PrintTest::fewerThanThree);
        Check.sentence("and the out stays", Promise14PrintTest::theOutStays);
        Check.sentence("UnsupportedOperationException when it would have more than 6,000", Promise14PrintTest::tooLong);
        Check.sentence("UnsupportedOperationException when it would have more than 6,000", Promise14PrintTest::farTooLong);
        Check.sentence("A STYLE has four parts, parted by |: of groups, of rows of levels 0, 1, 2.",
            Promise14PrintTest::fourParts);
        Check.sentence("A STYLE has four parts, parted by |: of groups, of rows of levels 0, 1, 2.",
            Promise14PrintTest::fullStyle);
        Check.sentence("%w stands for the words", Promise14PrintTest::words);
        Check.sentence("%p for the locators (\", \" between them, - between from and to)", Promise14PrintTest::locators);
        Check.sentence("0 small Roman numbers (1 .. 3999)", Promise14PrintTest::romans);
        Check.sentence("1 numbers (1 .. 99999)", Promise14PrintTest::numbers);
        Check.sentence("2 small letters (1 .. 702: a .. z, aa, ab .. zz)", Promise14PrintTest::letters);
        Check.sentence("%s for the words of all to see (\"; \" between them; each row once, in the order told)",
            Promise14PrintTest::toSee);
        Check.sentence("each row once, in the order told", Promise14PrintTest::toSeeOfSameOnes);
        Check.sentence("%g for the group (0, 1, or its letter)", Promise14PrintTest::groupSigns);
        Check.sentence("%n for a byte 10, %% for %", Promise14PrintTest::newLineAndPercent);
        Check.sentence("before one of level 0 whose group is another one than that of the one before "
            + "(and before the first one) the part of groups", Promise14PrintTest::partOfGroups);
        Check.sentence("in which %w, %p, %s are nothing", Promise14PrintTest::nothingInGroups);
        Check.finish();
    }

    private static void howManyBytes() {
        IndexSort x = new IndexSort();
        Check.same("no rows", "", Check.printed(x, "g|a|b|c"));
        Check.top(x, "tree");
        Check.same("empty parts", "", Check.printed(x, "|||"));
        Check.same("one", "x", Check.printed(x, "x|||"));
        Check.same("eleven", "tree tree.\n", Check.printed(x, "|%w %w.%n||"));
        Check.same("an out that shrinks", "e", Check.printed(x, "|e||"));
        x.style(0);
        Check.same("it was made, and stays", "e", Check.out(x));
        IndexSort some = new IndexSort();
        Check.some(some);
        Check.same("something of all", "b\nbush 10-11, 20 ()\nt\nTree 5-7 (bush; vein)\n-leaf 10 iv\n--vein\n",
            Check.out(some));
    }

    private static void faults(String[] styles, int[] places) {
        for (int k = 0; k < styles.length; k++) {
            IndexSort x = new IndexSort();
            Check.some(x);
            Check.same("the style " + styles[k], "print " + (-1 - places[k]), Check.printed(x, styles[k]));
        }
    }

    private static void firstFault() {
        faults(new String[] {"%a||||", "||||%a", "%a%b|||", "|%|", "a%", "%%%a|", "||||||"},
            new int[] {0, 3, 0, 1, 1, 2, 3});
    }

    /** Signs next to those that may stand there, the great ones, and those at the ends. */
    private static void beforeAnotherSign() {
        for (char c : "\u0001\u007f $&|vxoqrtfhmWPSGN019a".toCharArray()) {
            faults(new String[] {"%" + c + "|||", "||%w%" + c + "|%", "%%%" + c + "|||"}, new int[] {0, 4, 2});
        }
        for (char c : "wpsgn%".toCharArray()) {
            IndexSort x = new IndexSort();
            Check.style(x, "%" + c + "||%" + c + "|%" + c);
            Check.due("%" + c, 0, () -> x.print());
        }
    }

    private static void atTheEnd() {
        faults(new String[] {"%", "|||%", "|||%%%", "||%", "|||a%"}, new int[] {0, 3, 5, 2, 4});
    }

    private static void aFourthBar() {
        faults(new String[] {"||||", "|||a|", "a|b|c|d|e", "|||||", "%g|%w|%p|%s|"}, new int[] {3, 4, 7, 3, 11});
    }

    private static void fewerThanThree() {
        faults(new String[] {"", "a", "|", "||", "a|b|c", "%w|%w|%%", "abc"}, new int[] {0, 1, 1, 2, 5, 8, 3});
    }

    private static void theOutStays() {
        IndexSort x = Check.tops("tree");
        Check.same("made", "tree", Check.printed(x, "|%w||"));
        Check.top(x, "bush");
        String[] styles = {"", "|%w|", "|%w|||", "|%w||%", "|%w||%x"};
        int[] answers = {-1, -5, -6, -6, -6};
        for (int k = 0; k < styles.length; k++) {
            Check.style(x, styles[k]);
            Check.due("a fault in " + styles[k], answers[k], () -> x.print());
            Check.same("the out stays", "tree", Check.out(x));
        }
        Check.same("made again", "bushtree", Check.printed(x, "|%w||"));
        IndexSort none = new IndexSort();
        Check.due("without a style", -1, () -> none.print());
        Check.due("no out before, none then", Check.OUTSIDE_THE_OUT, () -> none.at(0));
    }

    private static void tenOfTwentySigns(IndexSort x) {
        for (int e = 0; e < 10; e++) {
            Check.top(x, "abcdefghijklmnopqrs" + (char) ('a' + e));
        }
    }

    /** The old out is the one byte of the part of groups. */
    private static void sixThousandAndOne(IndexSort x) {
        tenOfTwentySigns(x);
        Check.style(x, "!|||");
        x.print();
        Check.style(x, "!|" + THIRTY_TIMES + "||");
    }

    private static void tooLong() {
        IndexSort x = new IndexSort();
        tenOfTwentySigns(x);
        Check.style(x, "|" + THIRTY_TIMES + "||");
        Check.due("6000 bytes", 6000, () -> x.print());
        Check.due("the first byte", 'a', () -> x.at(0));
        Check.due("the last byte", 'j', () -> x.at(5999));
        Check.due("no more", Check.OUTSIDE_THE_OUT, () -> x.at(6000));
        Check.refused("6001 bytes", Check.FULL, Promise14PrintTest::sixThousandAndOne, y -> y.print());
        IndexSort old = new IndexSort();
        sixThousandAndOne(old);
        Check.due("6001 bytes", Check.FULL, () -> old.print());
        Check.same("the old out stays", "!", Check.out(old));
        Check.same("a shorter one can be made", "?", Check.printed(old, "?|||"));
        sixThousandThenMore();
    }

    private static void sixThousandThenMore() {
        IndexSort x = new IndexSort();
        tenOfTwentySigns(x);
        Check.style(x, "|" + THIRTY_TIMES + "||");
        x.print();
        x.style(0);
        Check.style(x, "x|" + THIRTY_TIMES + "||");
        Check.due("6001 bytes behind 6000", Check.FULL, () -> x.print());
        Check.due("the first byte stays", 'a', () -> x.at(0));
        Check.due("the last byte stays", 'j', () -> x.at(5999));
    }

    private static void farTooLong() {
        IndexSort x = new IndexSort();
        for (int e = 0; e < 40; e++) {
            Check.top(x, "abcdef" + e);
        }
        Check.style(x, "|||");
        x.print();
        Check.style(x, "|%w%w%w%w%w%w%w%w%w%w%w%w%w%w%w%w%w%w%w%w%w%w%w%w%w||");
        Check.due("40 rows of 25 times 7 or 8 bytes", Check.FULL, () -> x.print());
        Check.due("the out stays empty", Check.OUTSIDE_THE_OUT, () -> x.at(0));
        x.style('|');
        Check.due("a fault: there is no out that would be too long", -54, () -> x.print());
    }

    private static void fourParts() {
        IndexSort x = Check.tops("Tree");
        Check.entry(x, 1, 0, "leaf");
        Check.entry(x, 2, 1, "vein");
        Check.same("each", "gabc", Check.printed(x, "g|a|b|c"));
        Check.same("of groups alone", "g", Check.printed(x, "g|||"));
        Check.same("of level 0 alone", "a", Check.printed(x, "|a||"));
        Check.same("of level 1 alone", "b", Check.printed(x, "||b|"));
        Check.same("of level 2 alone", "c", Check.printed(x, "|||c"));
        Check.same("with words", "<t>\nTree 100%\n-leaf-t\n--vein\n",
            Check.printed(x, "<%g>%n|%w 100%%%n|-%w-%g%n|--%w%n"));
    }

    private static void fullStyle() {
        IndexSort x = Check.tops("a");
        Check.entry(x, 1, 0, "b");
        Check.entry(x, 2, 1, "c");
        Check.same("80 signs", "x".repeat(75) + "c", Check.printed(x, "|||" + "x".repeat(75) + "%w"));
        Check.same("80 signs, the last one a fault", "print -80", Check.printed(x, "|||" + "x".repeat(76) + "%"));
        Check.same("80 signs, the last one a fourth bar", "print -80", Check.printed(x, "|||" + "x".repeat(76) + "|"));
        Check.same("80 signs, a bar too few", "print -81", Check.printed(x, "||" + "x".repeat(78)));
    }

    /** Signs of words that mean something in a style mean nothing. */
    private static void words() {
        Check.same("none", "()", Check.printed(Check.tops(""), "|(%w)||"));
        Check.same("twenty", "(abcdefghijklmnopqrst)", Check.printed(Check.tops("abcdefghijklmnopqrst"), "|(%w)||"));
        Check.same("as they are", "\0\u00ff\u0080Z\n", Check.printed(Check.tops("\0\u00ff\u0080Z\n"), "|%w||"));
        Check.same("signs of a style", "%w|%n%.", Check.printed(Check.tops("%w|%n%"), "|%w.||"));
        IndexSort x = Check.tops("a", "a");
        x.sign(0, 'b');
        Check.same("of each row", "aab", Check.printed(x, "|%w||"));
    }

    private static void locators() {
        IndexSort x = Check.tops("a");
        Check.same("none", "()", Check.printed(x, "|(%p)||"));
        x.page(0, 1, 12);
        Check.same("one", "(12)", Check.printed(x, "|(%p)||"));
        x.page(0, 0, 3);
        x.page(0, 1, 13);
        Check.same("three, two of them next to each other", "iii, 12, 13", Check.printed(x, "|%p||"));
        x.page(0, 1, 14);
        Check.same("three pages", "iii, 12-14", Check.printed(x, "|%p||"));
        Check.range(x, 0, 99998, 99999);
        Check.range(x, 0, 20, 20);
        x.page(0, 2, 28);
        x.page(0, 2, 27);
        x.page(0, 2, 26);
        String all = "iii, 12-14, 20, 99998-99999, z-ab";
        Check.same("ranges", all, Check.printed(x, "|%p||"));
        Check.same("twice", all + all, Check.printed(x, "|%p%p||"));
    }

    private static void onePage(int kind, int n, String want) {
        IndexSort x = new IndexSort();
        x.entry(0, -1);
        x.page(0, kind, n);
        Check.same("page " + n + " of kind " + kind, want, Check.printed(x, "|%p||"));
    }

    private static void romans() {
        int[] numbers = {1, 2, 3, 4, 5, 6, 8, 9, 10, 40, 49, 50, 90, 99, 100, 400, 500, 900, 1000, 1444, 1990, 3888, 3999};
        String[] romans = {"i", "ii", "iii", "iv", "v", "vi", "viii", "ix", "x", "xl", "xlix", "l", "xc", "xcix", "c", "cd",
            "d", "cm", "m", "mcdxliv", "mcmxc", "mmmdccclxxxviii", "mmmcmxcix"};
        for (int k = 0; k < numbers.length; k++) {
            onePage(0, numbers[k], romans[k]);
        }
    }

    private static void numbers() {
        for (int n : new int[] {1, 9, 10, 99, 100, 101, 999, 1000, 9999, 10000, 10001, 20000, 30405, 99999}) {
            onePage(1, n, Integer.toString(n));
        }
    }

    private static void letters() {
        int[] letters = {1, 2, 25, 26, 27, 28, 52, 53, 78, 79, 676, 677, 701, 702};
        String[] texts = {"a", "b", "y", "z", "aa", "ab", "az", "ba", "bz", "ca", "yz", "za", "zy", "zz"};
        for (int k = 0; k < letters.length; k++) {
            onePage(2, letters[k], texts[k]);
        }
    }

    private static void toSee() {
        IndexSort x = Check.tops("f", "e", "d", "c", "b", "a");
        Check.same("none", "()()()()()()", Check.printed(x, "|(%s)||"));
        x.see(0, 3);
        Check.same("one", "()()()()()(c)", Check.printed(x, "|(%s)||"));
        for (int other : new int[] {5, 1, 4, 2}) {
            x.see(0, other);
        }
        Check.same("five, in the order told", "()()()()()(c; a; e; b; d)", Check.printed(x, "|(%s)||"));
        Check.entry(x, 1, 0, "u");
        x.see(6, 0);
        x.see(1, 6);
        Check.same("of another level", "a .b .c .d .e u.f c; a; e; b; d.-u f,", Check.printed(x, "|%w %s.|-%w %s,|"));
    }

    private static void toSeeOfSameOnes() {
        IndexSort x = Check.tops("a", "b", "c", "b", "a");
        x.see(4, 2);
        x.see(0, 3);
        x.see(0, 1);
        x.see(0, 2);
        Check.same("each row once, in the order told", "a c; b.b .c .", Check.printed(x, "|%w %s.||"));
        x.sign(3, 'x');
        Check.same("no longer the same", "a c; bx; b.b .bx .c .", Check.printed(x, "|%w %s.||"));
        x.see(2, 2);
        x.see(0, 4);
        Check.same("a same one is a row to see", "a c; bx; b; a.b .bx .c .", Check.printed(x, "|%w %s.||"));
        IndexSort empty = Check.tops("", "a", "b");
        empty.see(1, 0);
        empty.see(1, 2);
        Check.same("one without words", "().(; b).().", Check.printed(empty, "|(%s).||"));
    }

    private static void groupSigns() {
        IndexSort x = Check.tops("-", "9", "A", "\u00fa");
        Check.entry(x, 1, 1, "x");
        Check.entry(x, 2, 4, "y");
        Check.same("in each part", "g0-0,g1-1,b1,c1,ga-a,gz-z,", Check.printed(x, "g%g|-%g,|b%g,|c%g,"));
    }

    private static void newLineAndPercent() {
        IndexSort x = Check.tops("a");
        Check.same("both, in both parts", "\n%\n%%w", Check.printed(x, "%n%%|%n%%%%w||"));
    }

    private static void partOfGroups() {
        IndexSort x = Check.tops("b", "Ba", "7", "12", "--", "", "c");
        Check.entry(x, 1, 6, "b");
        Check.top(x, "cb");
        Check.same("before each other group", "[0],--,[1]7,12,[b]b,Ba,[c]c,b/c;cb,",
            Check.printed(x, "[%g]|%w,|%w/%g;|"));
        Check.same("before the first one, of group 0", "[0]", Check.printed(Check.tops("."), "[%g]|||"));
        Check.same("before the first one, of group 1", "[1]", Check.printed(Check.tops("1"), "[%g]|||"));
        IndexSort y = Check.tops("a", "b");
        Check.entry(y, 1, 0, "b");
        Check.entry(y, 2, 2, "z");
        Check.same("not before other levels", "[a]a b z [b]b ", Check.printed(y, "[%g]|%w |%w |%w "));
    }

    private static void nothingInGroups() {
        IndexSort x = Check.tops("a", "b");
        x.page(0, 1, 4);
        x.see(0, 1);
        Check.same("nothing", "<>a 4 b.<>b  .", Check.printed(x, "<%w%p%s>|%w %p %s.||"));
    }
}
