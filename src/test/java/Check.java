/** What every test of the project uses: it counts the answers that are not as due, and builds an index from texts. */
final class Check {
    interface Call {
        int go();
    }

    private static int wrong = 0;

    private Check() {
    }

    static void due(String call, long want, Call asked) {
        same(call, Long.toString(want), answer(asked));
    }

    /** The very class that the document names, not one under it. */
    static void dueThrow(String call, Class<? extends RuntimeException> want, Call asked) {
        same(call, "throws." + want.getSimpleName(), answer(asked));
    }

    private static String answer(Call asked) {
        try {
            return Integer.toString(asked.go());
        } catch (RuntimeException e) {
            return "throws." + e.getClass().getSimpleName();
        }
    }

    static void same(String call, String want, String got) {
        if (!want.equals(got)) {
            wrong++;
            System.out.println(call + " answered " + got + ", due is " + want);
        }
    }

    static void finish() {
        if (wrong != 0) {
            System.out.println(wrong + " answers are not as due");
            System.exit(1);
        }
    }

    static int entry(IndexSort x, int level, int above, String words) {
        int e = x.entry(level, above);
        for (int k = 0; k < words.length(); k++) {
            x.sign(e, words.charAt(k));
        }
        return e;
    }

    static int top(IndexSort x, String words) {
        return entry(x, 0, -1, words);
    }

    static void style(IndexSort x, String signs) {
        x.style(0);
        for (int k = 0; k < signs.length(); k++) {
            x.style(signs.charAt(k));
        }
    }

    static String out(IndexSort x) {
        StringBuilder text = new StringBuilder();
        for (int i = 0;; i++) {
            try {
                text.append((char) x.at(i));
            } catch (ArrayIndexOutOfBoundsException e) {
                return text.toString();
            }
        }
    }

    /** The out that a style makes; or what print answered, where that is a fault or an exception. */
    static String printed(IndexSort x, String signs) {
        style(x, signs);
        int size = x.print();
        if (size < 0) {
            return "fault " + size;
        }
        String text = out(x);
        return text.length() == size ? text : "print answered " + size + " but the out is " + text;
    }

    /** The entries of all rows, with a blank between them. */
    static String order(IndexSort x) {
        StringBuilder text = new StringBuilder();
        int count = x.run();
        for (int i = 0; i < count; i++) {
            text.append(i == 0 ? "" : " ").append(x.row(i, 0));
        }
        return text.toString();
    }

    /** The locators of a row as kind:from-to, with a blank between them. */
    static String locators(IndexSort x, int row) {
        StringBuilder text = new StringBuilder();
        int count = x.row(row, 2);
        for (int j = 0; j < count; j++) {
            text.append(j == 0 ? "" : " ").append(x.locator(row, j, 0)).append(':');
            text.append(x.locator(row, j, 1)).append('-').append(x.locator(row, j, 2));
        }
        return text.toString();
    }

    /** The warnings as kind:entry:number, with a blank between them. */
    static String warnings(IndexSort x) {
        StringBuilder text = new StringBuilder();
        int count = x.told(-1, 0);
        for (int i = 0; i < count; i++) {
            text.append(i == 0 ? "" : " ").append(x.told(i, 0)).append(':');
            text.append(x.told(i, 1)).append(':').append(x.told(i, 2));
        }
        return text.toString();
    }
}
