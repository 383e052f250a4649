import java.math.BigInteger;
import java.util.ArrayList;
import java.util.Comparator;
import java.util.HashMap;
import java.util.LinkedHashSet;
import java.util.List;
import java.util.Map;
import java.util.NoSuchElementException;
import java.util.Set;
import java.util.TreeSet;
import java.util.stream.Collectors;

/** A second reading of the document, as plain as can be: pages are sets, keys are texts, and what is dear is kept until it changes. */
final class Model {
    private static final class Told {
        int level;
        int above;
        String words = "";
        final List<int[]> pages = new ArrayList<>();
        int[] open = null;
    }

    private final List<Told> all = new ArrayList<>();
    private final List<int[]> sees = new ArrayList<>();
    private boolean digits = true;
    private boolean breaks = true;
    private String style = "";
    private String out = "";
    private final Map<Integer, Integer> firsts = new HashMap<>();
    private final Map<String, List<String>> keys = new HashMap<>();

    int entry(int level, int above) {
        if (above != -1) {
            need(above);
        }
        boolean fits = level == 0 ? above == -1 : above != -1 && all.get(above).level == level - 1;
        check(level >= 0 && level <= 2 && fits);
        room(all.size() < 80);
        Told one = new Told();
        one.level = level;
        one.above = above;
        all.add(one);
        return all.size() - 1;
    }

    int sign(int entry, int c) {
        need(entry);
        check(c >= 0 && c <= 255);
        room(all.get(entry).words.length() < 20);
        all.get(entry).words += (char) c;
        firsts.clear();
        return all.get(entry).words.length();
    }

    int page(int entry, int kind, int n) {
        need(entry);
        check(kind >= 0 && kind <= 2 && n >= 1 && n <= List.of(3999, 99999, 702).get(kind));
        room(all.get(entry).pages.size() < 20);
        all.get(entry).pages.add(new int[] {kind, n, n, 0});
        return all.get(entry).pages.size();
    }

    int range(int entry, int n, boolean ends) {
        need(entry);
        check(n >= 1 && n <= 99999);
        Told one = all.get(entry);
        if (!ends) {
            if (one.open != null) {
                return 0;
            }
            room(one.pages.size() < 20);
            one.open = new int[] {1, n, n, 0};
            one.pages.add(one.open);
            return 1;
        }
        if (one.open == null || n < one.open[1]) {
            return 0;
        }
        one.open[2] = n;
        one.open[3] = 1;
        one.open = null;
        return 1;
    }

    int see(int entry, int other) {
        need(entry);
        need(other);
        room(sees.stream().filter(s -> s[0] == entry).count() < 5);
        if (entry == other || sees.stream().anyMatch(s -> s[0] == entry && s[1] == other)) {
            return 0;
        }
        sees.add(new int[] {entry, other});
        return 1;
    }

    int rule(int which, boolean on) {
        check(which == 0 || which == 1);
        boolean was = which == 0 ? digits : breaks;
        if (which == 0) {
            digits = on;
        } else {
            breaks = on;
        }
        keys.clear();
        return was ? 1 : 0;
    }

    int run() {
        return rows().size();
    }

    int row(int i, int what) {
        List<Integer> rows = rows();
        inside(i >= 0 && i < rows.size() && what >= 0 && what <= 4);
        int r = rows.get(i);
        switch (what) {
            case 0:
                return r;
            case 1:
                return all.get(r).level;
            case 2:
                return locators(r).size();
            case 3:
                return toSee(r).size();
            default:
                return group(r);
        }
    }

    int locator(int i, int j, int what) {
        List<Integer> rows = rows();
        inside(i >= 0 && i < rows.size() && what >= 0 && what <= 2);
        List<int[]> found = locators(rows.get(i));
        inside(j >= 0 && j < found.size());
        return found.get(j)[what];
    }

    int compare(int a, int b) {
        need(a);
        need(b);
        return Integer.signum(order(all.get(a).words, all.get(b).words));
    }

    int told(int i, int what) {
        List<int[]> found = warnings();
        if (i == -1) {
            return found.size();
        }
        inside(i >= 0 && i < found.size() && what >= 0 && what <= 2);
        return found.get(i)[what];
    }

    int style(int c) {
        check(c >= 0 && c <= 127);
        if (c == 0) {
            style = "";
            return 0;
        }
        room(style.length() < 80);
        style += (char) c;
        return style.length();
    }

    int print() {
        int fault = fault();
        if (fault >= 0) {
            return -1 - fault;
        }
        String made = made(style.split("\\|", -1));
        room(made.length() <= 6000);
        out = made;
        return out.length();
    }

    int at(int i) {
        if (i < 0 || i >= out.length()) {
            throw new ArrayIndexOutOfBoundsException();
        }
        return out.charAt(i);
    }

    int sizeOfOut() {
        return out.length();
    }

    private void need(int entry) {
        if (entry < 0 || entry >= all.size()) {
            throw new NoSuchElementException();
        }
    }

    private static void check(boolean good) {
        if (!good) {
            throw new IllegalArgumentException();
        }
    }

    private static void room(boolean good) {
        if (!good) {
            throw new UnsupportedOperationException();
        }
    }

    private static void inside(boolean good) {
        if (!good) {
            throw new IndexOutOfBoundsException();
        }
    }

    /** A unit as a text whose first sign is its kind: 1 a break, 2 a number, 3 a letter. */
    private List<String> key(String words) {
        return keys.computeIfAbsent(words, this::keyFound);
    }

    private List<String> keyFound(String words) {
        StringBuilder kinds = new StringBuilder();
        for (char c : words.toCharArray()) {
            char plain = Character.toLowerCase((char) (c % 128));
            boolean letter = plain >= 'a' && plain <= 'z';
            kinds.append(letter ? plain : c >= '0' && c <= '9' ? c : ' ');
        }
        String text = kinds.toString().trim().replaceAll(" +", breaks ? " " : "_");
        List<String> units = new ArrayList<>();
        for (String part : text.split(digits ? "(?<=[^0-9])|(?=[^0-9])" : "")) {
            if (part.matches("[0-9]+")) {
                units.add("2" + part);
            } else if (part.equals(" ")) {
                units.add("1");
            } else if (part.matches("[a-z]")) {
                units.add("3" + part);
            }
        }
        return units;
    }

    private static int units(String a, String b) {
        if (a.charAt(0) == '2' && b.charAt(0) == '2') {
            return new BigInteger(a.substring(1)).compareTo(new BigInteger(b.substring(1)));
        }
        return a.compareTo(b);
    }

    private int order(String a, String b) {
        List<String> left = key(a);
        List<String> right = key(b);
        for (int k = 0; k < left.size() && k < right.size(); k++) {
            int found = units(left.get(k), right.get(k));
            if (found != 0) {
                return found;
            }
        }
        if (left.size() != right.size()) {
            return left.size() - right.size();
        }
        return weights(a).compareTo(weights(b));
    }

    /** Each sign as three: without mark and case, then the case, then the mark. */
    private static String weights(String words) {
        StringBuilder text = new StringBuilder();
        for (char c : words.toCharArray()) {
            char plain = (char) (c % 128);
            boolean great = plain >= 'A' && plain <= 'Z';
            text.append(great ? (char) (plain + 32) : plain).append(great ? '1' : '0').append(c / 128);
        }
        return text.toString();
    }

    private int first(int e) {
        if (e < 0) {
            return e;
        }
        if (!firsts.containsKey(e)) {
            firsts.put(e, firstFound(e));
        }
        return firsts.get(e);
    }

    private int firstFound(int e) {
        for (int d = 0; d < e; d++) {
            Told one = all.get(e);
            Told earlier = all.get(d);
            if (one.level == earlier.level && one.words.equals(earlier.words)
                    && first(one.above) == first(earlier.above)) {
                return d;
            }
        }
        return e;
    }

    private List<Integer> under(int above) {
        List<Integer> found = new ArrayList<>();
        for (int e = 0; e < all.size(); e++) {
            if (first(e) == e && first(all.get(e).above) == above) {
                found.add(e);
            }
        }
        found.sort(Comparator.comparing(e -> all.get(e).words, this::order));
        return found;
    }

    private List<Integer> rows() {
        List<Integer> found = new ArrayList<>();
        addRows(found, -1);
        return found;
    }

    private void addRows(List<Integer> found, int above) {
        for (int e : under(above)) {
            found.add(e);
            addRows(found, e);
        }
    }

    private List<int[]> pages(int row) {
        List<int[]> found = new ArrayList<>();
        for (int e = 0; e < all.size(); e++) {
            if (first(e) == row) {
                found.addAll(all.get(e).pages);
            }
        }
        return found;
    }

    private List<int[]> locators(int row) {
        List<int[]> found = new ArrayList<>();
        for (int kind = 0; kind < 3; kind++) {
            TreeSet<Integer> numbers = new TreeSet<>();
            TreeSet<Integer> inRanges = new TreeSet<>();
            for (int[] page : pages(row)) {
                for (int n = page[1]; page[0] == kind && n <= page[2]; n++) {
                    numbers.add(n);
                    if (page[3] == 1) {
                        inRanges.add(n);
                    }
                }
            }
            while (!numbers.isEmpty()) {
                int from = numbers.first();
                int to = from;
                while (numbers.contains(to + 1)) {
                    to++;
                }
                boolean one = to - from >= 2 || !inRanges.subSet(from, to + 1).isEmpty();
                for (int n = from; n <= to; n++) {
                    numbers.remove(n);
                    if (!one || n == from) {
                        found.add(new int[] {kind, n, one ? to : n});
                    }
                }
            }
        }
        return found;
    }

    private Set<Integer> toSee(int row) {
        Set<Integer> found = new LinkedHashSet<>();
        for (int[] s : sees) {
            if (first(s[0]) == row) {
                found.add(first(s[1]));
            }
        }
        return found;
    }

    private int group(int row) {
        int top = row;
        while (all.get(top).above >= 0) {
            top = all.get(top).above;
        }
        List<String> units = key(all.get(top).words);
        return units.isEmpty() ? 0 : units.get(0).startsWith("3") ? units.get(0).charAt(1) : 1;
    }

    private List<int[]> warnings() {
        List<int[]> found = new ArrayList<>();
        for (int e = 0; e < all.size(); e++) {
            if (all.get(e).open != null) {
                found.add(new int[] {1, e, all.get(e).open[1]});
            }
            for (int[] s : sees) {
                if (s[0] == e && pages(first(s[1])).isEmpty()) {
                    found.add(new int[] {2, e, s[1]});
                }
            }
            if (first(e) == e && pages(e).isEmpty() && toSee(e).isEmpty() && under(e).isEmpty()) {
                found.add(new int[] {3, e, 0});
            }
        }
        return found;
    }

    private int fault() {
        int bars = 0;
        for (int k = 0; k < style.length(); k++) {
            char c = style.charAt(k);
            if (c == '%') {
                if (!style.substring(k + 1).matches("(?s)[wpsgn%].*")) {
                    return k;
                }
                k++;
            }
            if (c == '|' && ++bars == 4) {
                return k;
            }
        }
        return bars == 3 ? -1 : style.length();
    }

    private String made(String[] parts) {
        StringBuilder text = new StringBuilder();
        int before = -1;
        for (int row : rows()) {
            int group = group(row);
            if (all.get(row).level == 0 && group != before) {
                text.append(filled(parts[0], "", "", "", group));
                before = group;
            }
            String pages = locators(row).stream().map(Model::pageText).collect(Collectors.joining(", "));
            String seen = toSee(row).stream().map(e -> all.get(e).words).collect(Collectors.joining("; "));
            text.append(filled(parts[all.get(row).level + 1], all.get(row).words, pages, seen, group));
        }
        return text.toString();
    }

    private static String filled(String part, String words, String pages, String seen, int group) {
        StringBuilder text = new StringBuilder();
        for (int k = 0; k < part.length(); k++) {
            if (part.charAt(k) != '%') {
                text.append(part.charAt(k));
                continue;
            }
            k++;
            switch (part.charAt(k)) {
                case 'w': text.append(words); break;
                case 'p': text.append(pages); break;
                case 's': text.append(seen); break;
                case 'g': text.append(group < 2 ? "" + group : "" + (char) group); break;
                case 'n': text.append('\n'); break;
                default: text.append('%'); break;
            }
        }
        return text.toString();
    }

    private static String pageText(int[] locator) {
        String from = numberText(locator[0], locator[1]);
        return locator[1] == locator[2] ? from : from + "-" + numberText(locator[0], locator[2]);
    }

    private static String numberText(int kind, int n) {
        if (kind == 1) {
            return Integer.toString(n);
        }
        if (kind == 2) {
            String last = "" + (char) ('a' + (n - 1) % 26);
            return n <= 26 ? last : (char) ('a' + (n - 27) / 26) + last;
        }
        String text = "i".repeat(n);
        String[][] shorter = {{"iiiii", "v"}, {"vv", "x"}, {"xxxxx", "l"}, {"ll", "c"}, {"ccccc", "d"}, {"dd", "m"},
            {"dcccc", "cm"}, {"cccc", "cd"}, {"lxxxx", "xc"}, {"xxxx", "xl"}, {"viiii", "ix"}, {"iiii", "iv"}};
        for (String[] pair : shorter) {
            text = text.replace(pair[0], pair[1]);
        }
        return text;
    }
}
