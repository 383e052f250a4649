import java.io.IOException;
import java.nio.charset.StandardCharsets;
import java.nio.file.Files;
import java.nio.file.Path;

/** What every test of the project uses: it counts the answers that are not as due, and builds an index from texts. */
final class Check {
    interface Call {
        int go();
    }

    interface Ask {
        int of(IndexSort x);
    }

    interface Tell {
        void to(IndexSort x);
    }

    static final String NO_ENTRY = "throws.NoSuchElementException";
    static final String ILLEGAL = "throws.IllegalArgumentException";
    static final String FULL = "throws.UnsupportedOperationException";
    static final String OUTSIDE = "throws.IndexOutOfBoundsException";
    static final String OUTSIDE_THE_OUT = "throws.ArrayIndexOutOfBoundsException";

    private static final int MIN = Integer.MIN_VALUE;
    private static final int MAX = Integer.MAX_VALUE;

    private static int wrong = 0;
    private static String sentenceNow = "";
    private static String document = null;

    private Check() {
    }

    /** One test of its own for one sentence of the document, which must stand there in these words. */
    static void sentence(String sentence, Runnable test) {
        sentenceNow = sentence;
        if (!document().contains(sentence)) {
            wrong("the document does not say it");
        }
        try {
            test.run();
        } catch (RuntimeException e) {
            wrong("the test ended by " + e + " at " + e.getStackTrace()[0]);
        }
        sentenceNow = "";
    }

    private static String document() {
        if (document == null) {
            try {
                document = Files.readString(Path.of("../shared/DOC.md"), StandardCharsets.UTF_8);
            } catch (IOException e) {
                document = "";
            }
        }
        return document;
    }

    static void due(String call, long want, Call asked) {
        same(call, Long.toString(want), answer(asked));
    }

    static void due(String call, String want, Call asked) {
        same(call, want, answer(asked));
    }

    /** The call answers so (mostly it throws), and then nothing tells its object from one that was never asked. */
    static void refused(String call, String want, Tell state, Ask asked) {
        IndexSort x = new IndexSort();
        state.to(x);
        same(call, want, answer(() -> asked.of(x)));
        IndexSort never = new IndexSort();
        state.to(never);
        same("after " + call + ": what can be asked", Whole.of(never), Whole.of(x));
    }

    /** The very class that the document names, not one under it. */
    static String answer(Call asked) {
        try {
            return Integer.toString(asked.go());
        } catch (RuntimeException e) {
            return "throws." + e.getClass().getSimpleName();
        }
    }

    static void same(String call, String want, String got) {
        if (!want.equals(got)) {
            wrong(call + " answered " + got + ", due is " + want);
        }
    }

    private static void wrong(String what) {
        wrong++;
        System.out.println((sentenceNow.isEmpty() ? "" : "\"" + sentenceNow + "\": ") + what);
    }

    static void finish() {
        if (wrong != 0) {
            System.out.println(wrong + " answers are not as due");
            System.exit(1);
        }
    }

    /** Numbers that are no entry of an object that has so many. */
    static int[] noEntries(int count) {
        return new int[] {-1, count, -2, 80, MIN, MAX};
    }

    /** Numbers just outside least .. most, and far from it. */
    static int[] outside(int least, int most) {
        return new int[] {least - 1, most + 1, MIN, MAX};
    }

    static int entry(IndexSort x, int level, int above, String words) {
        int e = x.entry(level, above);
        signs(x, e, words);
        return e;
    }

    static void signs(IndexSort x, int entry, String words) {
        for (int k = 0; k < words.length(); k++) {
            x.sign(entry, words.charAt(k));
        }
    }

    static int top(IndexSort x, String words) {
        return entry(x, 0, -1, words);
    }

    static IndexSort tops(String... words) {
        IndexSort x = new IndexSort();
        for (String one : words) {
            top(x, one);
        }
        return x;
    }

    static void range(IndexSort x, int entry, int from, int to) {
        x.range(entry, from, false);
        x.range(entry, to, true);
    }

    static void style(IndexSort x, String signs) {
        x.style(0);
        for (int k = 0; k < signs.length(); k++) {
            x.style(signs.charAt(k));
        }
    }

    /** Something of all: 5 entries (4 the same as 0), pages, a range that is not ended, to see, a rule off, a style, an out. */
    static void some(IndexSort x) {
        int tree = top(x, "Tree");
        int leaf = entry(x, 1, tree, "leaf 10");
        entry(x, 2, leaf, "vein");
        int bush = top(x, "bush");
        int again = top(x, "Tree");
        x.page(tree, 1, 5);
        x.page(again, 1, 6);
        x.page(again, 1, 7);
        x.page(leaf, 0, 4);
        range(x, bush, 10, 11);
        x.range(bush, 20, false);
        x.see(tree, bush);
        x.see(again, 2);
        x.rule(1, false);
        style(x, "%g%n|%w %p (%s)%n|-%w %p%n|--%w%n");
        x.print();
    }

    static String out(IndexSort x) {
        StringBuilder text = new StringBuilder();
        for (int i = 0; i <= 6000; i++) {
            try {
                text.append((char) x.at(i));
            } catch (ArrayIndexOutOfBoundsException e) {
                return text.toString();
            }
        }
        return "more than 6000 bytes";
    }

    /** The out that a style makes; or what print answered, where that is a fault or an exception. */
    static String printed(IndexSort x, String signs) {
        style(x, signs);
        String size = answer(() -> x.print());
        if (size.startsWith("throws") || size.startsWith("-")) {
            return "print " + size;
        }
        String text = out(x);
        return text.length() == Integer.parseInt(size) ? text : "print answered " + size + " but the out is " + text;
    }

    /** The entries of all rows, with a blank between them. */
    static String order(IndexSort x) {
        StringBuilder text = new StringBuilder();
        int count = x.run();
        for (int i = 0; i < count; i++) {
            text.append(i == 0 ? "" : " ").append(x.row(i, 0));
        }
        return text.toString();
    }

    /** The row of an entry that is not the same as an earlier one. */
    static int rowOf(IndexSort x, int entry) {
        int count = x.run();
        for (int i = 0; i < count; i++) {
            if (x.row(i, 0) == entry) {
                return i;
            }
        }
        return -1;
    }

    /** The locators of a row as kind:from-to, with a blank between them. */
    static String locators(IndexSort x, int row) {
        StringBuilder text = new StringBuilder();
        int count = x.row(row, 2);
        for (int j = 0; j < count; j++) {
            text.append(j == 0 ? "" : " ").append(x.locator(row, j, 0)).append(':');
            text.append(x.locator(row, j, 1)).append('-').append(x.locator(row, j, 2));
        }
        return text.toString();
    }

    /** The warnings as kind:entry:number, with a blank between them. */
    static String warnings(IndexSort x) {
        StringBuilder text = new StringBuilder();
        int count = x.told(-1, 0);
        for (int i = 0; i < count; i++) {
            text.append(i == 0 ? "" : " ").append(x.told(i, 0)).append(':');
            text.append(x.told(i, 1)).append(':').append(x.told(i, 2));
        }
        return text.toString();
    }
}
