import java.util.NoSuchElementException;

/** An index of a book; the document that it keeps is ../shared/DOC.md. */
public final class IndexSort {
    private static final int MOST_ENTRIES = 80;
    private static final int MOST_SIGNS = 20;
    private static final int MOST_PAGES = 20;
    private static final int MOST_TO_SEE = 5;
    private static final int MOST_STYLE = 80;
    private static final int MOST_OUT = 6000;
    private static final int LEVELS = 3;
    private static final int NONE = -1;

    private static final int ROMAN = 0;
    private static final int PLAIN = 1;
    private static final int LETTERED = 2;

    private final Book book;
    private final Order order;
    private final Rows rows;
    private final Locators locators;
    private final Sees sees;
    private final Warnings warnings;
    private final Style style;
    private final Out out;

    public IndexSort() {
        book = new Book();
        order = new Order();
        rows = new Rows();
        locators = new Locators();
        sees = new Sees();
        warnings = new Warnings();
        style = new Style();
        out = new Out();
    }

    public int entry(int level, int above)
            throws NoSuchElementException, IllegalArgumentException, UnsupportedOperationException {
        if (above != NONE && !book.has(above)) {
            throw new NoSuchElementException("there is no such entry above");
        }
        if (level < 0 || level >= LEVELS || !book.isLevel(above, level - 1)) {
            throw new IllegalArgumentException("the entry above is not of the level before");
        }
        if (book.count >= MOST_ENTRIES) {
            throw new UnsupportedOperationException("there are 80 entries");
        }
        forgetRows();
        return book.add(new Entry(level, above));
    }

    public int sign(int entry, int c)
            throws NoSuchElementException, IllegalArgumentException, UnsupportedOperationException {
        if (!book.has(entry)) {
            throw new NoSuchElementException("there is no such entry");
        }
        if (c < 0 || c > 255) {
            throw new IllegalArgumentException("a sign is 0 .. 255");
        }
        Entry one = book.entries[entry];
        if (one.signCount >= MOST_SIGNS) {
            throw new UnsupportedOperationException("the words have 20 signs");
        }
        forgetRows();
        return one.addSign(c);
    }

    public int page(int entry, int kind, int n)
            throws NoSuchElementException, IllegalArgumentException, UnsupportedOperationException {
        if (!book.has(entry)) {
            throw new NoSuchElementException("there is no such entry");
        }
        if (!Span.isPage(kind, n)) {
            throw new IllegalArgumentException("there is no such page");
        }
        Entry one = book.entries[entry];
        if (one.spanCount >= MOST_PAGES) {
            throw new UnsupportedOperationException("the entry has 20 pages and ranges");
        }
        forgetPages();
        return one.addSpan(Span.pack(kind, n, n, false));
    }

    public int range(int entry, int n, boolean ends)
            throws NoSuchElementException, IllegalArgumentException, UnsupportedOperationException {
        if (!book.has(entry)) {
            throw new NoSuchElementException("there is no such entry");
        }
        if (!Span.isPage(PLAIN, n)) {
            throw new IllegalArgumentException("there is no such page");
        }
        Entry one = book.entries[entry];
        if (ends ? !one.canEndRange(n) : one.hasOpenRange()) {
            return 0;
        }
        if (!ends && one.spanCount >= MOST_PAGES) {
            throw new UnsupportedOperationException("the entry has 20 pages and ranges");
        }
        forgetPages();
        if (ends) {
            one.endRange(n);
        } else {
            one.beginRange(n);
        }
        return 1;
    }

    public int see(int entry, int other) throws NoSuchElementException, UnsupportedOperationException {
        if (!book.has(entry) || !book.has(other)) {
            throw new NoSuchElementException("there is no such entry");
        }
        if (sees.countAt(entry) >= MOST_TO_SEE) {
            throw new UnsupportedOperationException("the entry has 5 to see");
        }
        if (entry == other || sees.has(entry, other)) {
            return 0;
        }
        warnings.fresh = false;
        sees.add(entry, other);
        return 1;
    }

    public int rule(int which, boolean on) throws IllegalArgumentException {
        if (which != 0 && which != 1) {
            throw new IllegalArgumentException("a rule is 0 or 1");
        }
        boolean was = which == 0 ? order.digits : order.breaks;
        if (which == 0) {
            order.digits = on;
        } else {
            order.breaks = on;
        }
        forgetRows();
        return was ? 1 : 0;
    }

    public int run() {
        rows.arrange(book, order);
        return rows.count;
    }

    public int row(int i, int what) throws IndexOutOfBoundsException {
        rows.arrange(book, order);
        if (i < 0 || i >= rows.count || what < 0 || what > 4) {
            throw new IndexOutOfBoundsException("there is no such row, or nothing of that kind in it");
        }
        int first = rows.laid[i];
        switch (what) {
            case 0:
                return first;
            case 1:
                return book.entries[first].level;
            case 2:
                locators.gather(book, rows, first);
                return locators.count;
            case 3:
                sees.gather(rows, first);
                return sees.shownCount;
            default:
                return order.group(book.top(first));
        }
    }

    public int locator(int i, int j, int what) throws IndexOutOfBoundsException {
        rows.arrange(book, order);
        if (i < 0 || i >= rows.count || what < 0 || what > 2) {
            throw new IndexOutOfBoundsException("there is no such row, or nothing of that kind in a locator");
        }
        locators.gather(book, rows, rows.laid[i]);
        if (j < 0 || j >= locators.count) {
            throw new IndexOutOfBoundsException("there is no such locator");
        }
        long span = locators.spans[j];
        if (what == 0) {
            return Span.kindOf(span);
        }
        return what == 1 ? Span.fromOf(span) : Span.endOf(span);
    }

    public int compare(int a, int b) throws NoSuchElementException {
        if (!book.has(a) || !book.has(b)) {
            throw new NoSuchElementException("there is no such entry");
        }
        return order.between(book.entries[a], book.entries[b]);
    }

    public int told(int i, int what) throws IndexOutOfBoundsException {
        rows.arrange(book, order);
        warnings.gather(book, rows, sees);
        if (i == -1) {
            return warnings.count;
        }
        if (i < 0 || i >= warnings.count || what < 0 || what > 2) {
            throw new IndexOutOfBoundsException("there is no such warning, or nothing of that kind in it");
        }
        return warnings.triples[3 * i + what];
    }

    public int style(int c) throws IllegalArgumentException, UnsupportedOperationException {
        if (c < 0 || c > 127) {
            throw new IllegalArgumentException("a sign of the style is 1 .. 127");
        }
        if (c == 0) {
            style.count = 0;
            return 0;
        }
        if (style.count >= MOST_STYLE) {
            throw new UnsupportedOperationException("the style has 80 signs");
        }
        return style.add(c);
    }

    public int print() throws UnsupportedOperationException {
        int fault = style.firstFault();
        if (fault != NONE) {
            return -1 - fault;
        }
        rows.arrange(book, order);
        // The old out must stay when the new one is too long, so it is measured before a byte is written.
        out.begin(false);
        layRows();
        if (out.size > MOST_OUT) {
            throw new UnsupportedOperationException("the out would have more than 6000 bytes");
        }
        out.begin(true);
        layRows();
        out.length = out.size;
        return out.length;
    }

    public int at(int i) throws ArrayIndexOutOfBoundsException {
        if (i < 0 || i >= out.length) {
            throw new ArrayIndexOutOfBoundsException("there is no such byte in the out");
        }
        return out.bytes[i] & 255;
    }

    private void forgetRows() {
        rows.fresh = false;
        forgetPages();
    }

    private void forgetPages() {
        locators.of = NONE;
        warnings.fresh = false;
    }

    private void layRows() {
        int groupBefore = NONE;
        int group = NONE;
        for (int i = 0; i < rows.count; i++) {
            int first = rows.laid[i];
            Entry one = book.entries[first];
            if (one.level == 0) {
                group = order.group(one);
                if (group != groupBefore) {
                    layPart(0, NONE, group);
                }
                groupBefore = group;
            }
            layPart(one.level + 1, first, group);
        }
    }

    /** Of the part of groups the first entry is NONE, as it has no words, pages and words to see. */
    private void layPart(int part, int first, int group) {
        int end = style.endOf(part);
        for (int k = style.startOf(part); k < end; k++) {
            if (style.signs[k] != '%' || k + 1 >= end) {
                out.put(style.signs[k]);
                continue;
            }
            k++;
            switch (style.signs[k]) {
                case 'w':
                    layWords(first);
                    break;
                case 'p':
                    layLocators(first);
                    break;
                case 's':
                    laySees(first);
                    break;
                case 'g':
                    out.put(group < 'a' ? '0' + group : group);
                    break;
                case 'n':
                    out.put(10);
                    break;
                default:
                    out.put('%');
                    break;
            }
        }
    }

    private void layWords(int first) {
        if (!book.has(first)) {
            return;
        }
        Entry one = book.entries[first];
        for (int k = 0; k < one.signCount; k++) {
            out.put(one.signs[k]);
        }
    }

    private void layLocators(int first) {
        if (!book.has(first)) {
            return;
        }
        locators.gather(book, rows, first);
        for (int j = 0; j < locators.count; j++) {
            if (j > 0) {
                out.put(',');
                out.put(' ');
            }
            long span = locators.spans[j];
            out.putPage(Span.kindOf(span), Span.fromOf(span));
            if (Span.endOf(span) > Span.fromOf(span)) {
                out.put('-');
                out.putPage(Span.kindOf(span), Span.endOf(span));
            }
        }
    }

    private void laySees(int first) {
        if (!book.has(first)) {
            return;
        }
        sees.gather(rows, first);
        for (int k = 0; k < sees.shownCount; k++) {
            if (k > 0) {
                out.put(';');
                out.put(' ');
            }
            layWords(sees.shown[k]);
        }
    }

    /** What was told of one entry, before equal ones are joined. */
    private static final class Entry {
        final int level;
        final int above;
        final int[] signs = new int[MOST_SIGNS];
        int signCount = 0;
        final long[] spans = new long[MOST_PAGES];
        int spanCount = 0;
        int openRange = NONE;

        Entry(int level, int above) {
            this.level = level;
            this.above = above;
        }

        int addSign(int c) {
            if (signCount < MOST_SIGNS) {
                signs[signCount] = c;
                signCount++;
            }
            return signCount;
        }

        int addSpan(long span) {
            if (spanCount < MOST_PAGES) {
                spans[spanCount] = span;
                spanCount++;
            }
            return spanCount;
        }

        boolean hasOpenRange() {
            return openRange >= 0 && openRange < spanCount;
        }

        int openBegin() {
            return hasOpenRange() ? Span.fromOf(spans[openRange]) : 0;
        }

        boolean canEndRange(int n) {
            return hasOpenRange() && n >= openBegin();
        }

        void beginRange(int n) {
            openRange = spanCount;
            addSpan(Span.pack(PLAIN, n, n, false));
        }

        void endRange(int n) {
            if (hasOpenRange()) {
                spans[openRange] = Span.pack(PLAIN, openBegin(), n, true);
                openRange = NONE;
            }
        }

        boolean hasWordsOf(Entry other) {
            if (signCount != other.signCount) {
                return false;
            }
            for (int k = 0; k < signCount; k++) {
                if (signs[k] != other.signs[k]) {
                    return false;
                }
            }
            return true;
        }
    }

    /** Pages from .. end of one kind in one long, so that the order of the longs is that of kinds, then numbers. */
    private static final class Span {
        private static final int NUMBER_BITS = 17;
        private static final int NUMBER_MASK = (1 << NUMBER_BITS) - 1;

        static boolean isPage(int kind, int n) {
            switch (kind) {
                case ROMAN:
                    return n >= 1 && n <= 3999;
                case PLAIN:
                    return n >= 1 && n <= 99999;
                case LETTERED:
                    return n >= 1 && n <= 702;
                default:
                    return false;
            }
        }

        static long pack(int kind, int from, int end, boolean isRange) {
            long numbers = ((long) from << NUMBER_BITS) | end;
            return ((long) kind << (2 * NUMBER_BITS + 1)) | (numbers << 1) | (isRange ? 1 : 0);
        }

        static int kindOf(long span) {
            return (int) (span >> (2 * NUMBER_BITS + 1));
        }

        static int fromOf(long span) {
            return (int) (span >> (NUMBER_BITS + 1)) & NUMBER_MASK;
        }

        static int endOf(long span) {
            return (int) (span >> 1) & NUMBER_MASK;
        }

        static boolean isRange(long span) {
            return (span & 1) == 1;
        }
    }

    private static final class Book {
        final Entry[] entries = new Entry[MOST_ENTRIES];
        int count = 0;

        boolean has(int entry) {
            return entry >= 0 && entry < count;
        }

        /** Nothing at all stands for the level before level 0. */
        boolean isLevel(int entry, int level) {
            return has(entry) ? entries[entry].level == level : level == NONE;
        }

        int add(Entry one) {
            if (count < MOST_ENTRIES) {
                entries[count] = one;
                count++;
            }
            return count - 1;
        }

        Entry top(int entry) {
            Entry one = entries[entry];
            for (int step = 1; step < LEVELS && has(one.above); step++) {
                one = entries[one.above];
            }
            return one;
        }
    }

    /** Reads the units of a key one by one; made once, as keys of all entries would be too much to keep. */
    private static final class Units {
        static final int END = 0;
        static final int BREAK = 1;
        static final int NUMBER = 2;
        static final int LETTER = 3;

        int kind = END;
        int letter = 0;
        int start = 0;
        int place = 0;
        boolean begun = false;

        void begin() {
            kind = END;
            place = 0;
            begun = false;
        }

        void next(Entry entry, boolean digits, boolean breaks) {
            boolean gap = false;
            while (place < entry.signCount && !isLetter(entry.signs[place]) && !isDigit(entry.signs[place])) {
                gap = true;
                place++;
            }
            if (place >= entry.signCount) {
                kind = END;
                return;
            }
            if (gap && begun && breaks) {
                kind = BREAK;
                return;
            }
            begun = true;
            start = place;
            place++;
            if (isLetter(entry.signs[start])) {
                kind = LETTER;
                letter = small(entry.signs[start]);
                return;
            }
            kind = NUMBER;
            while (digits && place < entry.signCount && isDigit(entry.signs[place])) {
                place++;
            }
            while (start < place && entry.signs[start] == '0') {
                start++;
            }
        }

        static boolean isLetter(int c) {
            int low = c & 127 | 32;
            return low >= 'a' && low <= 'z';
        }

        static boolean isDigit(int c) {
            return c >= '0' && c <= '9';
        }

        static boolean isGreat(int c) {
            int plain = c & 127;
            return plain >= 'A' && plain <= 'Z';
        }

        /** The sign without its mark, a great letter as its small one. */
        static int small(int c) {
            int plain = c & 127;
            return plain >= 'A' && plain <= 'Z' ? plain + 32 : plain;
        }
    }

    private static final class Order {
        boolean digits = true;
        boolean breaks = true;
        final Units left = new Units();
        final Units right = new Units();

        int between(Entry a, Entry b) {
            int byKeys = betweenKeys(a, b);
            return byKeys != 0 ? byKeys : betweenWords(a, b);
        }

        int group(Entry one) {
            left.begin();
            left.next(one, digits, breaks);
            switch (left.kind) {
                case Units.END:
                    return 0;
                case Units.NUMBER:
                    return 1;
                case Units.BREAK:
                    return 2;
                default:
                    return left.letter;
            }
        }

        private int betweenKeys(Entry a, Entry b) {
            left.begin();
            right.begin();
            for (int unit = 0; unit <= MOST_SIGNS; unit++) {
                left.next(a, digits, breaks);
                right.next(b, digits, breaks);
                int found = Integer.compare(left.kind, right.kind);
                if (found == 0 && left.kind == Units.NUMBER) {
                    found = betweenNumbers(a, b);
                }
                if (found == 0 && left.kind == Units.LETTER) {
                    found = Integer.compare(left.letter, right.letter);
                }
                if (found != 0 || left.kind == Units.END) {
                    return found;
                }
            }
            return 0;
        }

        /** Twenty digits are more than a long holds, so numbers are compared as texts without zeros before them. */
        private int betweenNumbers(Entry a, Entry b) {
            int length = left.place - left.start;
            int found = Integer.compare(length, right.place - right.start);
            for (int k = 0; k < length && found == 0; k++) {
                found = Integer.compare(a.signs[left.start + k], b.signs[right.start + k]);
            }
            return found;
        }

        private int betweenWords(Entry a, Entry b) {
            int length = Math.min(a.signCount, b.signCount);
            for (int k = 0; k < length; k++) {
                if (a.signs[k] != b.signs[k]) {
                    return betweenSigns(a.signs[k], b.signs[k]);
                }
            }
            return Integer.compare(a.signCount, b.signCount);
        }

        private static int betweenSigns(int c, int d) {
            int found = Integer.compare(Units.small(c), Units.small(d));
            if (found != 0) {
                return found;
            }
            if (Units.isGreat(c) != Units.isGreat(d)) {
                return Units.isGreat(c) ? 1 : -1;
            }
            return Integer.compare(c, d);
        }
    }

    /** The entries joined and sorted, kept until words or rules change. */
    private static final class Rows {
        final int[] first = new int[MOST_ENTRIES];
        final int[] sorted = new int[MOST_ENTRIES];
        int sortedCount = 0;
        final int[] laid = new int[MOST_ENTRIES];
        int count = 0;
        boolean fresh = false;

        void arrange(Book book, Order order) {
            if (fresh) {
                return;
            }
            sortedCount = 0;
            for (int e = 0; e < book.count; e++) {
                first[e] = firstSame(book, e);
                if (first[e] == e) {
                    sortIn(book, order, e);
                }
            }
            count = 0;
            lay(book, 0, NONE);
            fresh = true;
        }

        boolean isUnder(Book book, int entry, int row) {
            int above = book.entries[entry].above;
            return row == NONE ? above == NONE : book.has(above) && first[above] == row;
        }

        boolean hasUnder(Book book, int row) {
            for (int e = 0; e < book.count; e++) {
                if (isUnder(book, e, row)) {
                    return true;
                }
            }
            return false;
        }

        boolean hasPages(Book book, int row) {
            for (int e = 0; e < book.count; e++) {
                if (first[e] == row && book.entries[e].spanCount > 0) {
                    return true;
                }
            }
            return false;
        }

        private int firstSame(Book book, int entry) {
            Entry one = book.entries[entry];
            int rowAbove = book.has(one.above) ? first[one.above] : NONE;
            for (int e = 0; e < entry; e++) {
                Entry earlier = book.entries[e];
                if (earlier.level == one.level && isUnder(book, e, rowAbove) && earlier.hasWordsOf(one)) {
                    return e;
                }
            }
            return entry;
        }

        private void sortIn(Book book, Order order, int entry) {
            int low = 0;
            int high = sortedCount;
            while (low < high) {
                int middle = (low + high) / 2;
                if (order.between(book.entries[sorted[middle]], book.entries[entry]) <= 0) {
                    low = middle + 1;
                } else {
                    high = middle;
                }
            }
            if (sortedCount < MOST_ENTRIES) {
                for (int k = sortedCount; k > low; k--) {
                    sorted[k] = sorted[k - 1];
                }
                sorted[low] = entry;
                sortedCount++;
            }
        }

        private void lay(Book book, int level, int row) {
            if (level >= LEVELS) {
                return;
            }
            for (int k = 0; k < sortedCount; k++) {
                int e = sorted[k];
                if (book.entries[e].level == level && isUnder(book, e, row) && count < MOST_ENTRIES) {
                    laid[count] = e;
                    count++;
                    lay(book, level + 1, e);
                }
            }
        }
    }

    /** The locators of one row, kept until another row is asked for or something changes. */
    private static final class Locators {
        final long[] spans = new long[MOST_ENTRIES * MOST_PAGES];
        int count = 0;
        int of = NONE;

        void gather(Book book, Rows rows, int row) {
            if (of == row) {
                return;
            }
            count = 0;
            for (int e = 0; e < book.count; e++) {
                if (rows.first[e] == row) {
                    sortIn(book.entries[e]);
                }
            }
            joinNeighbours();
            of = row;
        }

        private void sortIn(Entry one) {
            for (int k = 0; k < one.spanCount && count < spans.length; k++) {
                long span = one.spans[k];
                int place = count;
                while (place > 0 && spans[place - 1] > span) {
                    spans[place] = spans[place - 1];
                    place--;
                }
                spans[place] = span;
                count++;
            }
        }

        /** In place: what is written never passes what is read, as two locators come of two spans at least. */
        private void joinNeighbours() {
            int read = 0;
            int written = 0;
            while (read < count) {
                int kind = Span.kindOf(spans[read]);
                int from = Span.fromOf(spans[read]);
                int end = Span.endOf(spans[read]);
                boolean isRange = Span.isRange(spans[read]);
                read++;
                while (read < count && Span.kindOf(spans[read]) == kind && Span.fromOf(spans[read]) <= end + 1) {
                    end = Math.max(end, Span.endOf(spans[read]));
                    isRange = isRange || Span.isRange(spans[read]);
                    read++;
                }
                boolean apart = end == from + 1 && !isRange;
                spans[written] = Span.pack(kind, from, apart ? from : end, isRange);
                written++;
                if (apart && written < read) {
                    spans[written] = Span.pack(kind, end, end, false);
                    written++;
                }
            }
            count = written;
        }
    }

    /** All that is to see, in the order told: of a row whose entries are joined it is the order among them too. */
    private static final class Sees {
        final int[] owner = new int[MOST_ENTRIES * MOST_TO_SEE];
        final int[] other = new int[MOST_ENTRIES * MOST_TO_SEE];
        int count = 0;
        final int[] shown = new int[MOST_ENTRIES];
        int shownCount = 0;

        int countAt(int entry) {
            int found = 0;
            for (int k = 0; k < count; k++) {
                if (owner[k] == entry) {
                    found++;
                }
            }
            return found;
        }

        boolean has(int entry, int seen) {
            for (int k = 0; k < count; k++) {
                if (owner[k] == entry && other[k] == seen) {
                    return true;
                }
            }
            return false;
        }

        void add(int entry, int seen) {
            if (count < owner.length) {
                owner[count] = entry;
                other[count] = seen;
                count++;
            }
        }

        void gather(Rows rows, int row) {
            shownCount = 0;
            for (int k = 0; k < count; k++) {
                if (rows.first[owner[k]] == row) {
                    show(rows.first[other[k]]);
                }
            }
        }

        private void show(int row) {
            for (int k = 0; k < shownCount; k++) {
                if (shown[k] == row) {
                    return;
                }
            }
            if (shownCount < MOST_ENTRIES) {
                shown[shownCount] = row;
                shownCount++;
            }
        }
    }

    /** Kind, entry and number of each warning one behind the other, kept until something changes. */
    private static final class Warnings {
        final int[] triples = new int[3 * MOST_ENTRIES * (MOST_TO_SEE + 2)];
        int count = 0;
        boolean fresh = false;

        void gather(Book book, Rows rows, Sees sees) {
            if (fresh) {
                return;
            }
            count = 0;
            for (int e = 0; e < book.count; e++) {
                Entry one = book.entries[e];
                if (one.hasOpenRange()) {
                    add(1, e, one.openBegin());
                }
                addBlindSees(book, rows, sees, e);
                if (rows.first[e] == e && isBare(book, rows, sees, e)) {
                    add(3, e, 0);
                }
            }
            fresh = true;
        }

        private void addBlindSees(Book book, Rows rows, Sees sees, int entry) {
            for (int k = 0; k < sees.count; k++) {
                if (sees.owner[k] == entry && !rows.hasPages(book, rows.first[sees.other[k]])) {
                    add(2, entry, sees.other[k]);
                }
            }
        }

        private static boolean isBare(Book book, Rows rows, Sees sees, int row) {
            if (rows.hasPages(book, row) || rows.hasUnder(book, row)) {
                return false;
            }
            sees.gather(rows, row);
            return sees.shownCount == 0;
        }

        private void add(int kind, int entry, int number) {
            int place = 3 * count;
            if (place + 2 < triples.length) {
                triples[place] = kind;
                triples[place + 1] = entry;
                triples[place + 2] = number;
                count++;
            }
        }
    }

    private static final class Style {
        final int[] signs = new int[MOST_STYLE];
        int count = 0;

        int add(int c) {
            if (count < MOST_STYLE) {
                signs[count] = c;
                count++;
            }
            return count;
        }

        /** The place of the first fault, or NONE. */
        int firstFault() {
            int bars = 0;
            for (int k = 0; k < count; k++) {
                if (signs[k] == '|') {
                    bars++;
                    if (bars > LEVELS) {
                        return k;
                    }
                } else if (signs[k] == '%') {
                    if (k + 1 >= count || !standsForSomething(signs[k + 1])) {
                        return k;
                    }
                    k++;
                }
            }
            return bars < LEVELS ? count : NONE;
        }

        /** A bar behind a % is a fault, so in a style without one each bar parts. */
        int startOf(int part) {
            int bars = 0;
            for (int k = 0; k < count; k++) {
                if (bars == part) {
                    return k;
                }
                if (signs[k] == '|') {
                    bars++;
                }
            }
            return count;
        }

        int endOf(int part) {
            for (int k = startOf(part); k < count; k++) {
                if (signs[k] == '|') {
                    return k;
                }
            }
            return count;
        }

        private static boolean standsForSomething(int c) {
            return c == 'w' || c == 'p' || c == 's' || c == 'g' || c == 'n' || c == '%';
        }
    }

    private static final class Out {
        private static final int[] ROMAN_VALUES = {1000, 900, 500, 400, 100, 90, 50, 40, 10, 9, 5, 4, 1};
        private static final char[] ROMAN_ONES = {'m', 'c', 'd', 'c', 'c', 'x', 'l', 'x', 'x', 'i', 'v', 'i', 'i'};
        private static final char[] ROMAN_TWOS = {0, 'm', 0, 'd', 0, 'c', 0, 'l', 0, 'x', 0, 'v', 0};

        final byte[] bytes = new byte[MOST_OUT];
        int length = 0;
        int size = 0;
        boolean writing = false;

        void begin(boolean isWriting) {
            size = 0;
            writing = isWriting;
        }

        void put(int b) {
            if (writing && size < MOST_OUT) {
                bytes[size] = (byte) b;
            }
            size++;
        }

        void putPage(int kind, int n) {
            switch (kind) {
                case ROMAN:
                    putRoman(n);
                    break;
                case LETTERED:
                    putLetters(n);
                    break;
                default:
                    putNumber(n);
                    break;
            }
        }

        private void putRoman(int n) {
            int rest = n;
            for (int k = 0; k < ROMAN_VALUES.length; k++) {
                while (rest >= ROMAN_VALUES[k]) {
                    rest -= ROMAN_VALUES[k];
                    put(ROMAN_ONES[k]);
                    if (ROMAN_TWOS[k] != 0) {
                        put(ROMAN_TWOS[k]);
                    }
                }
            }
        }

        private void putNumber(int n) {
            for (int unit = 10000; unit > 0; unit /= 10) {
                if (n >= unit) {
                    put('0' + n / unit % 10);
                }
            }
        }

        private void putLetters(int n) {
            if (n > 26) {
                put('a' + (n - 27) / 26);
            }
            put('a' + (n - 1) % 26);
        }
    }
}
