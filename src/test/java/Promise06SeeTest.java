public final class Promise06SeeTest {
    public static void main(String[] args) {
        Check.sentence("At an entry another one is to see: 1", Promise06SeeTest::another);
        Check.sentence("0, and it is not, when that is itself", Promise06SeeTest::itself);
        Check.sentence("when that is itself, or told already", Promise06SeeTest::toldAlready);
        Check.sentence("NoSuchElementException: there is no such entry.", Promise06SeeTest::noEntry);
        Check.sentence("UnsupportedOperationException when it has 5.", Promise06SeeTest::fiveAtMost);
        Check.finish();
    }

    private static void another() {
        IndexSort x = new IndexSort();
        Check.some(x);
        Check.due("one before it", 1, () -> x.see(3, 0));
        Check.due("one behind it", 1, () -> x.see(2, 3));
        Check.due("the other way round", 1, () -> x.see(2, 4));
        Check.due("one under it", 1, () -> x.see(0, 1));
        Check.due("one above it", 1, () -> x.see(1, 0));
        Check.due("a same one is another one", 1, () -> x.see(0, 4));
        Check.due("told at a same one is not told at it", 1, () -> x.see(4, 3));
        Check.due("the same as one told is not told", 1, () -> x.see(3, 4));
    }

    private static void itself() {
        for (int e = 0; e < 5; e++) {
            int entry = e;
            Check.refused("see(" + e + ", " + e + ")", "0", Check::some, x -> x.see(entry, entry));
        }
    }

    private static void toldAlready() {
        Check.refused("see(0, 3)", "0", Check::some, x -> x.see(0, 3));
        Check.refused("see(4, 2)", "0", Check::some, x -> x.see(4, 2));
        Check.refused("not the last one told", "0", Promise06SeeTest::four, x -> x.see(3, 6));
    }

    private static void noEntry() {
        IndexSort x = new IndexSort();
        Check.due("see(0, 0) with none", Check.NO_ENTRY, () -> x.see(0, 0));
        for (int e : Check.noEntries(5)) {
            Check.refused("see(" + e + ", 0)", Check.NO_ENTRY, Check::some, y -> y.see(e, 0));
            Check.refused("see(0, " + e + ")", Check.NO_ENTRY, Check::some, y -> y.see(0, e));
            Check.refused("see(" + e + ", " + e + ")", Check.NO_ENTRY, Check::some, y -> y.see(e, e));
        }
    }

    private static void four(IndexSort x) {
        Check.some(x);
        for (int e = 5; e < 9; e++) {
            Check.top(x, "x" + e);
            x.see(3, e);
        }
    }

    private static void five(IndexSort x) {
        four(x);
        x.see(3, 0);
    }

    private static void fiveAtMost() {
        IndexSort x = new IndexSort();
        four(x);
        Check.due("the fifth", 1, () -> x.see(3, 0));
        Check.due("five rows", 5, () -> x.row(0, 3));
        Check.due("another one has its own", 1, () -> x.see(5, 0));
        Check.refused("the sixth", Check.FULL, Promise06SeeTest::five, y -> y.see(3, 1));
        Check.refused("the sixth, no entry: named first", Check.NO_ENTRY, Promise06SeeTest::five, y -> y.see(3, 9));
        Check.refused("the sixth, no entry: named first", Check.NO_ENTRY, Promise06SeeTest::five, y -> y.see(3, -1));
        Check.refused("it has 5, told already or not", Check.FULL, Promise06SeeTest::five, y -> y.see(3, 5));
        Check.refused("it has 5, itself or not", Check.FULL, Promise06SeeTest::five, y -> y.see(3, 3));
        fiveOfTheFirst();
    }

    private static void fiveOfTheFirst() {
        IndexSort x = Check.tops("a", "b", "c", "d", "e", "f", "g");
        for (int e = 1; e <= 5; e++) {
            int other = e;
            Check.due("see(0, " + e + ")", 1, () -> x.see(0, other));
        }
        Check.due("the sixth", Check.FULL, () -> x.see(0, 6));
        Check.due("still five", 5, () -> x.row(0, 3));
    }
}
