/** Runs of calls, made by a fixed rule, on the class and on the model: every answer must be the same. */
public final class ModelTest {
    private static final int RUNS = 2000;
    private static final int MOST_CALLS = 512;
    private static final String[] STYLES = {"%g%n|%w %p (%s)%n| %w %p (%s)%n|  %w %p (%s)%n", "|%w%s%p|%%%g|%w",
        "<%g>|%w;%w|%w%p,|%s%w.", "%s%w%p[%g]|||", "|%s%s%s%s%s%s%s%s%s%s|%p%p%p%p%p%p%p%p%p|%w%w%w%w%w%w%w%w",
        "%|||", "||", "|||%", "||||", "a%z|||", "%w|%p"};
    private static final String[] SIGNS = {"ab", "aA\u00e1\u00c1bB", "a 1-0", "0123456789", "ab 01\u00b1\u00a0.Z",
        "aabbccdd 12"};
    private static final String[] NAMES = {"entry", "sign", "page", "range", "see", "rule", "run", "row", "locator",
        "compare", "told", "style", "print", "at"};

    private long seed;
    private IndexSort x;
    private Model model;
    private int entries;
    private String signs;
    private int mostEntries;
    private int mostPage;
    private int calls;
    private StringBuilder log;

    public static void main(String[] args) {
        ModelTest test = new ModelTest();
        for (int run = 1; run <= RUNS; run++) {
            if (!test.goes(run)) {
                System.exit(1);
            }
        }
    }

    private int pick(int bound) {
        seed = seed * 6364136223846793005L + 1442695040888963407L;
        return (int) ((seed >>> 33) % bound);
    }

    private boolean goes(int run) {
        seed = run * 7919L;
        x = new IndexSort();
        model = new Model();
        entries = 0;
        signs = SIGNS[pick(SIGNS.length)];
        mostEntries = 2 + pick(run % 50 == 0 ? 79 : 14);
        mostPage = 3 + pick(40);
        log = new StringBuilder();
        calls = 0;
        int telling = 20 + pick(400);
        while (calls < MOST_CALLS) {
            boolean tells = calls < telling ? pick(12) != 0 : pick(40) == 0;
            int op = tells ? pickTelling() : 6 + pick(9);
            if (op == 14 ? !sameWhole(run) : !sameAnswer(run, op, arguments(op))) {
                return false;
            }
        }
        return true;
    }

    private int pickTelling() {
        int n = pick(100);
        if (entries == 0 || n < 12 && entries < mostEntries) {
            return 0;
        }
        return n < 55 ? 1 : n < 73 ? 2 : n < 85 ? 3 : n < 95 ? 4 : n < 97 ? 5 : 14;
    }

    private int anEntry() {
        return pick(60) == 0 ? pick(entries + 3) - 1 : pick(Math.max(1, entries));
    }

    /** Now and then an argument that no call takes. */
    private int orWild(int n) {
        int[] wild = {-1, -2, 256, 100000, Integer.MAX_VALUE, Integer.MIN_VALUE};
        return pick(150) == 0 ? wild[pick(wild.length)] : n;
    }

    private int aPage(int kind) {
        int[] most = {3999, 99999, 702};
        int edge = pick(25);
        return edge == 0 ? most[kind] : edge == 1 ? 1 + pick(most[kind]) : edge == 2 ? most[kind] + 1 : 1 + pick(mostPage);
    }

    private int[] arguments(int op) {
        switch (op) {
            case 0:
                int level = pick(3);
                return new int[] {orWild(level), level == 0 ? orWild(-1) : anEntry()};
            case 1:
                return new int[] {anEntry(), orWild(pick(30) == 0 ? pick(256) : signs.charAt(pick(signs.length())))};
            case 2:
                int kind = pick(3);
                return new int[] {anEntry(), orWild(kind), aPage(kind)};
            case 3:
                return new int[] {anEntry(), orWild(1 + pick(mostPage)), pick(2)};
            case 4:
                return new int[] {anEntry(), anEntry()};
            case 5:
                return new int[] {orWild(pick(2)), pick(2)};
            case 7:
                return new int[] {orWild(pick(entries + 1)), orWild(pick(5))};
            case 8:
                return new int[] {orWild(pick(entries + 1)), orWild(pick(6)), orWild(pick(3))};
            case 9:
                return new int[] {anEntry(), anEntry()};
            case 10:
                return new int[] {orWild(pick(entries + 2) - 1), orWild(pick(3))};
            case 11:
                return new int[] {orWild(pick(6) == 0 ? 0 : "%|wpsgna".charAt(pick(8)))};
            case 13:
                return new int[] {orWild(pick(200))};
            default:
                return new int[0];
        }
    }

    /** A whole style and its out, then all that can be asked. */
    private boolean sameWhole(int run) {
        String style = STYLES[pick(STYLES.length)];
        boolean good = sameAnswer(run, 11, new int[] {0});
        for (int k = 0; good && k < style.length(); k++) {
            good = sameAnswer(run, 11, new int[] {style.charAt(k)});
        }
        return good && sameAnswer(run, 12, new int[0]) && sameOut(run) && sameIndex(run);
    }

    /** A few places of the out, its end among them. */
    private boolean sameOut(int run) {
        int size = model.sizeOfOut();
        boolean good = sameAnswer(run, 13, new int[] {size}) && sameAnswer(run, 13, new int[] {size - 1});
        for (int k = 0; good && k < 20; k++) {
            good = sameAnswer(run, 13, new int[] {pick(size + 1)});
        }
        return good;
    }

    private boolean sameIndex(int run) {
        boolean good = sameAnswer(run, 6, new int[0]);
        int rows = model.run();
        for (int i = 0; good && i < rows; i++) {
            for (int what = 0; good && what < 5; what++) {
                good = sameAnswer(run, 7, new int[] {i, what});
            }
        }
        int warnings = model.told(-1, 0);
        for (int i = -1; good && i <= warnings; i++) {
            for (int what = 0; good && what < 3; what++) {
                good = sameAnswer(run, 10, new int[] {i, what});
            }
        }
        return good;
    }

    /** What an object answers behind its 512th call is free, so it is not asked then. */
    private boolean sameAnswer(int run, int op, int[] a) {
        calls++;
        if (calls > MOST_CALLS) {
            return true;
        }
        String want = answerOfModel(op, a);
        String got = answerOfClass(op, a);
        log.append(NAMES[op]).append(java.util.Arrays.toString(a)).append(" = ").append(want).append('\n');
        if (op == 0 && !want.startsWith("throws")) {
            entries++;
        }
        if (!want.equals(got)) {
            System.out.print(log);
            System.out.println("run " + run + ", call " + calls + ": the last one answered " + got);
            return false;
        }
        return true;
    }

    private String answerOfModel(int op, int[] a) {
        try {
            return Integer.toString(askModel(op, a));
        } catch (RuntimeException e) {
            return "throws." + e.getClass().getSimpleName();
        }
    }

    private String answerOfClass(int op, int[] a) {
        try {
            return Integer.toString(askClass(op, a));
        } catch (RuntimeException e) {
            return "throws." + e.getClass().getSimpleName();
        }
    }

    private int askModel(int op, int[] a) {
        switch (op) {
            case 0: return model.entry(a[0], a[1]);
            case 1: return model.sign(a[0], a[1]);
            case 2: return model.page(a[0], a[1], a[2]);
            case 3: return model.range(a[0], a[1], a[2] == 1);
            case 4: return model.see(a[0], a[1]);
            case 5: return model.rule(a[0], a[1] == 1);
            case 6: return model.run();
            case 7: return model.row(a[0], a[1]);
            case 8: return model.locator(a[0], a[1], a[2]);
            case 9: return model.compare(a[0], a[1]);
            case 10: return model.told(a[0], a[1]);
            case 11: return model.style(a[0]);
            case 12: return model.print();
            default: return model.at(a[0]);
        }
    }

    private int askClass(int op, int[] a) {
        switch (op) {
            case 0: return x.entry(a[0], a[1]);
            case 1: return x.sign(a[0], a[1]);
            case 2: return x.page(a[0], a[1], a[2]);
            case 3: return x.range(a[0], a[1], a[2] == 1);
            case 4: return x.see(a[0], a[1]);
            case 5: return x.rule(a[0], a[1] == 1);
            case 6: return x.run();
            case 7: return x.row(a[0], a[1]);
            case 8: return x.locator(a[0], a[1], a[2]);
            case 9: return x.compare(a[0], a[1]);
            case 10: return x.told(a[0], a[1]);
            case 11: return x.style(a[0]);
            case 12: return x.print();
            default: return x.at(a[0]);
        }
    }
}
