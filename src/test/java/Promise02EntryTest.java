public final class Promise02EntryTest {
    public static void main(String[] args) {
        Check.sentence("An entry without words: its number.", Promise02EntryTest::itsNumber);
        Check.sentence("An entry without words: its number.", Promise02EntryTest::withoutWords);
        Check.sentence("those of level 1 and 2 are under one of the level before", Promise02EntryTest::levelBefore);
        Check.sentence("NoSuchElementException when above is not -1, and no entry", Promise02EntryTest::aboveIsNoEntry);
        Check.sentence("IllegalArgumentException when level is not 0 .. 2", Promise02EntryTest::levels);
        Check.sentence("or above is none of the level before (of level 0: not -1)", Promise02EntryTest::aboveOfLevel0);
        Check.sentence("UnsupportedOperationException when there are 80", Promise02EntryTest::eightyAtMost);
        Check.sentence("ENTRIES 0, 1, .. (80 at most)", Promise02EntryTest::eightyOfThreeLevels);
        Check.finish();
    }

    private static void threeLevels(IndexSort x) {
        x.entry(0, -1);
        x.entry(1, 0);
        x.entry(2, 1);
    }

    private static void eighty(IndexSort x) {
        threeLevels(x);
        for (int e = 3; e < 80; e++) {
            x.entry(0, -1);
        }
    }

    private static void itsNumber() {
        IndexSort x = new IndexSort();
        Check.due("entry(0, -1)", 0, () -> x.entry(0, -1));
        Check.due("entry(1, 0)", 1, () -> x.entry(1, 0));
        Check.due("entry(2, 1)", 2, () -> x.entry(2, 1));
        Check.due("entry(0, -1)", 3, () -> x.entry(0, -1));
        Check.due("a same one has its own number", 4, () -> x.entry(0, -1));
    }

    private static void withoutWords() {
        IndexSort x = new IndexSort();
        threeLevels(x);
        Check.due("of a group without a key", 0, () -> x.row(0, 4));
        Check.due("without pages", 0, () -> x.row(2, 2));
        Check.due("without words to see", 0, () -> x.row(2, 3));
        Check.due("the first sign", 1, () -> x.sign(2, 'a'));
        Check.due("the first page", 1, () -> x.page(2, 1, 1));
        Check.due("no range has begun", 0, () -> x.range(2, 1, true));
    }

    private static void levelBefore() {
        for (int level = 0; level <= 2; level++) {
            for (int above = -1; above <= 2; above++) {
                int l = level;
                int a = above;
                String call = "entry(" + l + ", " + a + ")";
                if (l == a + 1) {
                    IndexSort x = new IndexSort();
                    threeLevels(x);
                    Check.due(call, 3, () -> x.entry(l, a));
                    x.sign(3, 'a');
                    Check.due("its level", l, () -> x.row(Check.rowOf(x, 3), 1));
                } else {
                    Check.refused(call, Check.ILLEGAL, Promise02EntryTest::threeLevels, y -> y.entry(l, a));
                }
            }
        }
    }

    private static void aboveIsNoEntry() {
        IndexSort none = new IndexSort();
        Check.due("the first one under itself", Check.NO_ENTRY, () -> none.entry(1, 0));
        for (int above : new int[] {3, -2, 79, 80, Integer.MIN_VALUE, Integer.MAX_VALUE}) {
            for (int level = -1; level <= 3; level++) {
                int l = level;
                Check.refused("entry(" + l + ", " + above + ")", Check.NO_ENTRY, Promise02EntryTest::threeLevels,
                    x -> x.entry(l, above));
            }
        }
        IndexSort x = new IndexSort();
        threeLevels(x);
        x.entry(0, -1);
        Check.due("under the last one", 4, () -> x.entry(1, 3));
    }

    private static void levels() {
        for (int level : Check.outside(0, 2)) {
            for (int above = -1; above <= 2; above++) {
                int a = above;
                Check.refused("entry(" + level + ", " + a + ")", Check.ILLEGAL, Promise02EntryTest::threeLevels,
                    x -> x.entry(level, a));
            }
        }
    }

    private static void aboveOfLevel0() {
        IndexSort x = new IndexSort();
        Check.due("entry(1, -1) with none", Check.ILLEGAL, () -> x.entry(1, -1));
        Check.due("entry(2, -1) with none", Check.ILLEGAL, () -> x.entry(2, -1));
        Check.due("entry(0, 0) with none", Check.NO_ENTRY, () -> x.entry(0, 0));
        Check.due("entry(0, -1)", 0, () -> x.entry(0, -1));
        Check.refused("entry(0, 0)", Check.ILLEGAL, Check::some, y -> y.entry(0, 0));
        Check.refused("entry(0, 3)", Check.ILLEGAL, Check::some, y -> y.entry(0, 3));
    }

    private static void eightyAtMost() {
        IndexSort x = new IndexSort();
        for (int e = 0; e < 80; e++) {
            Check.due("entry " + e, e, () -> x.entry(0, -1));
        }
        Check.due("the last one is there", 1, () -> x.sign(79, 'a'));
        Check.refused("the 81st", Check.FULL, Promise02EntryTest::eighty, y -> y.entry(0, -1));
        Check.refused("the 81st, of level 1", Check.FULL, Promise02EntryTest::eighty, y -> y.entry(1, 79));
        Check.refused("the 81st, of level 2", Check.FULL, Promise02EntryTest::eighty, y -> y.entry(2, 1));
        Check.refused("the 81st, of no level", Check.ILLEGAL, Promise02EntryTest::eighty, y -> y.entry(3, -1));
        Check.refused("the 81st, of another level", Check.ILLEGAL, Promise02EntryTest::eighty, y -> y.entry(2, 0));
        Check.refused("the 81st, under none", Check.NO_ENTRY, Promise02EntryTest::eighty, y -> y.entry(1, 80));
        Check.refused("the 81st, all of it", Check.NO_ENTRY, Promise02EntryTest::eighty, y -> y.entry(3, -2));
    }

    /** The first one of level 0, 39 under it, and one under each of them. */
    private static void eightyOfThreeLevels() {
        IndexSort x = new IndexSort();
        Check.top(x, "t");
        for (int e = 1; e <= 39; e++) {
            Check.entry(x, 1, 0, Integer.toString(e));
        }
        for (int e = 1; e <= 39; e++) {
            x.entry(2, e);
        }
        Check.due("the 80th", 79, () -> x.entry(2, 39));
        Check.due("the last two are the same", 79, () -> x.run());
        x.sign(79, 'a');
        Check.due("80 rows", 80, () -> x.run());
        Check.due("the last row of 80", 79, () -> x.row(79, 0));
        Check.due("the last row's level", 2, () -> x.row(79, 1));
        Check.due("the last row's group", 't', () -> x.row(79, 4));
        Check.due("row 80", Check.OUTSIDE, () -> x.row(80, 0));
    }
}
