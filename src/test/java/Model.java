import java.util.ArrayList;
import java.util.Arrays;
import java.util.List;

/**
 * The document told a second time, with texts and lists and by other ways than the class:
 * what the class answers is compared with what this one does.
 */
final class Model {
    private final int width;
    private final int height;
    private String pad = "";
    private String order = "";
    private final List<String> templates = new ArrayList<>();
    private final List<Entry> entries = new ArrayList<>();
    private Result latest = null;
    private boolean refusedLate = false;

    private static final class Entry {
        String template;
        String[] fields = {"", "", "", ""};
        int[] claims = {-1, -1, -1, -1};
        int picture = 0;
    }

    /** A row of a page: an entry and one of its lines, or -1 for its picture. */
    private record Row(int entry, int line) { }

    private static final class Result {
        List<List<String>> lines = new ArrayList<>();
        List<List<Row>> pages = new ArrayList<>();
        int[] entryPages = new int[8];
        int passes;
        boolean settled;
        int lineSquares;
        int pageSquares;
    }

    Model(int width, int height) {
        this.width = width < 6 ? 6 : width > 40 ? 40 : width;
        this.height = height < 3 ? 3 : height > 30 ? 30 : height;
    }

    /** Whether the latest run() was refused in a pass behind the first. */
    boolean wasRefusedLate() {
        return refusedLate;
    }

    int unit(int a, int b) {
        String more = "";
        for (int word : new int[] {a, b}) {
            for (int shift = 0; shift < 32; shift += 8) {
                int sign = word >> shift & 0xff;
                more += sign == 0 ? "" : String.valueOf((char) sign);
            }
        }
        if (pad.length() + more.length() > 32) {
            throw new IllegalStateException();
        }
        if (!more.chars().allMatch(s -> s >= 32 && s <= 126)) {
            throw new IllegalArgumentException();
        }
        pad += more;
        return pad.length();
    }

    private static final String MARK = "(#[0-3]|@[0-7])";
    private static final String PLAIN = "([a-z ]|" + MARK + ")";
    private static final String WHOLE = "(" + PLAIN + "|\\[" + PLAIN + "*\\])*";

    private static boolean isTemplate(String text) {
        return text.matches(WHOLE) && text.replaceAll("[^#@]", "").length() <= 6;
    }

    /** Whether some template begins like this: one of a few ends makes it whole. */
    private static boolean beginsTemplate(String text) {
        return isTemplate(text) || isTemplate(text + "]") || isTemplate(text + "0") || isTemplate(text + "0]");
    }

    int template() {
        if (templates.size() == 6) {
            throw new IllegalStateException();
        }
        String text = pad;
        pad = "";
        if (isTemplate(text)) {
            templates.add(text);
            return templates.size() - 1;
        }
        for (int i = 0; i < text.length(); i++) {
            if (!beginsTemplate(text.substring(0, i + 1))) {
                return -1 - i;
            }
        }
        return -1 - text.length();
    }

    int entry(int template) {
        if (template < 0 || template >= templates.size()) {
            throw new IndexOutOfBoundsException();
        }
        if (entries.size() == 8) {
            throw new IllegalStateException();
        }
        Entry made = new Entry();
        made.template = templates.get(template);
        entries.add(made);
        return entries.size() - 1;
    }

    private void within(int value, int least, int most) {
        if (value < least || value > most) {
            throw new IndexOutOfBoundsException();
        }
    }

    int field(int entry, int f) {
        within(entry, 0, entries.size() - 1);
        within(f, 0, 3);
        if (!pad.matches("[a-z ]*")) {
            throw new IllegalArgumentException();
        }
        entries.get(entry).fields[f] = pad;
        pad = "";
        return entries.get(entry).fields[f].length();
    }

    int claim(int entry, int c, int source) {
        within(entry, 0, entries.size() - 1);
        within(c, 0, 3);
        if (source < -1 || source > 1) {
            throw new IllegalArgumentException();
        }
        int before = entries.get(entry).claims[c];
        entries.get(entry).claims[c] = source;
        return before;
    }

    int picture(int entry, int h) {
        within(entry, 0, entries.size() - 1);
        if (h < 0 || h > 30) {
            throw new IllegalArgumentException();
        }
        int before = entries.get(entry).picture;
        entries.get(entry).picture = h;
        return before;
    }

    int order() {
        if (!pad.matches("[a-z]*") || pad.chars().distinct().count() != pad.length()) {
            throw new IllegalArgumentException();
        }
        order = pad;
        pad = "";
        return order.length();
    }

    private static String printed(Entry entry, int[] told) {
        StringBuilder whole = new StringBuilder();
        // Cut into parts and what stands between them.
        for (String piece : entry.template.split("(?=\\[)|(?<=\\])")) {
            String text = piece;
            boolean missing = false;
            for (int f = 0; f < 4; f++) {
                missing |= text.contains("#" + f) && entry.fields[f].isEmpty();
            }
            if (text.startsWith("[") && missing) {
                continue;
            }
            text = text.replace("[", "").replace("]", "");
            for (int f = 0; f < 4; f++) {
                text = text.replace("#" + f, entry.fields[f]);
            }
            for (int e = 0; e < 8; e++) {
                text = text.replace("@" + e, String.valueOf(told[e]));
            }
            whole.append(text);
        }
        return whole.toString();
    }

    /** A way to fill rows: how many items each has, and the squares of all but the last. */
    record Way(List<Integer> rows, int squares) {
        boolean isBetterThan(Way other) {
            if (other == null || squares != other.squares) {
                return other == null || squares < other.squares;
            }
            for (int i = 0; i < Math.min(rows.size(), other.rows.size()); i++) {
                if (!rows.get(i).equals(other.rows.get(i))) {
                    return rows.get(i) < other.rows.get(i);
                }
            }
            return false;
        }
    }

    private static int filled(List<Integer> sizes, int from, int end, int gap) {
        int sum = gap * (end - from - 1);
        for (int i = from; i < end; i++) {
            sum += sizes.get(i);
        }
        return sum;
    }

    /** From the front: the best way for each beginning, then the best last row behind one. */
    static Way best(List<Integer> sizes, int room, int gap) {
        int n = sizes.size();
        if (n == 0) {
            return new Way(List.of(), 0);
        }
        Way[] full = new Way[n];
        full[0] = new Way(List.of(), 0);
        Way best = null;
        for (int end = 1; end <= n; end++) {
            for (int from = 0; from < end; from++) {
                int left = room - filled(sizes, from, end, gap);
                if (left < 0 || full[from] == null) {
                    continue;
                }
                List<Integer> rows = new ArrayList<>(full[from].rows());
                rows.add(end - from);
                if (end == n) {
                    Way way = new Way(rows, full[from].squares());
                    best = way.isBetterThan(best) ? way : best;
                } else {
                    Way way = new Way(rows, full[from].squares() + left * left);
                    full[end] = way.isBetterThan(full[end]) ? way : full[end];
                }
            }
        }
        return best;
    }

    /** Every way there is, one by one: for short rows of items alone. */
    static Way bestOfAll(List<Integer> sizes, int room, int gap) {
        int n = sizes.size();
        if (n == 0) {
            return new Way(List.of(), 0);
        }
        Way best = null;
        for (int cuts = 0; cuts < 1 << (n - 1); cuts++) {
            Way way = wayOf(cuts, sizes, room, gap);
            if (way != null && way.isBetterThan(best)) {
                best = way;
            }
        }
        return best;
    }

    private static Way wayOf(int cuts, List<Integer> sizes, int room, int gap) {
        List<Integer> rows = new ArrayList<>();
        int squares = 0;
        int from = 0;
        for (int end = 1; end <= sizes.size(); end++) {
            boolean isLast = end == sizes.size();
            if (isLast || (cuts >> (end - 1) & 1) == 1) {
                int left = room - filled(sizes, from, end, gap);
                if (left < 0) {
                    return null;
                }
                squares += isLast ? 0 : left * left;
                rows.add(end - from);
                from = end;
            }
        }
        return new Way(rows, squares);
    }

    int run() {
        refusedLate = false;
        for (int e = 0; e < entries.size(); e++) {
            if (Arrays.stream(entries.get(e).claims).anyMatch(c -> c == 0)) {
                return -1 - e;
            }
        }
        int[] told = new int[8];
        Result result = null;
        for (int pass = 1; pass <= 5 && (result == null || !result.settled); pass++) {
            result = new Result();
            result.passes = pass;
            int bad = setLines(result, told);
            if (bad >= 0) {
                refusedLate = pass > 1;
                return -101 - bad;
            }
            setPages(result);
            result.settled = Arrays.equals(told, result.entryPages);
            told = result.entryPages;
        }
        latest = result;
        return latest.pages.size();
    }

    private int setLines(Result result, int[] told) {
        for (int e = 0; e < entries.size(); e++) {
            Entry entry = entries.get(e);
            List<String> words = new ArrayList<>(List.of(printed(entry, told).split(" +")));
            words.removeIf(String::isEmpty);
            if (words.stream().anyMatch(w -> w.length() > width)) {
                return e;
            }
            Way way = best(words.stream().map(String::length).toList(), width, 1);
            result.lineSquares += way.squares();
            List<String> lines = new ArrayList<>();
            int from = 0;
            for (int n : way.rows()) {
                lines.add(String.join(" ", words.subList(from, from + n)));
                from += n;
            }
            if (entry.picture + Math.min(2, lines.size()) > height) {
                return e;
            }
            result.lines.add(lines);
        }
        return -1;
    }

    private void setPages(Result result) {
        List<List<Row>> units = new ArrayList<>();
        int[] firsts = new int[8];
        Arrays.fill(firsts, -1);
        for (int e = 0; e < entries.size(); e++) {
            List<Row> unit = new ArrayList<>();
            for (int h = 0; h < entries.get(e).picture; h++) {
                unit.add(new Row(e, -1));
            }
            for (int l = 0; l < result.lines.get(e).size(); l++) {
                if (l > 1) {
                    unit = new ArrayList<>();
                }
                unit.add(new Row(e, l));
                if (l > 1) {
                    units.add(unit);
                } else if (l == 0) {
                    firsts[e] = units.size();
                    units.add(unit);
                }
            }
            if (firsts[e] < 0 && !unit.isEmpty()) {
                firsts[e] = units.size();
                units.add(unit);
            }
        }
        Way way = best(units.stream().map(List::size).toList(), height, 0);
        result.pageSquares = way.squares();
        int from = 0;
        for (int n : way.rows()) {
            List<Row> page = new ArrayList<>();
            units.subList(from, from + n).forEach(page::addAll);
            result.pages.add(page);
            for (int e = 0; e < entries.size(); e++) {
                if (firsts[e] >= from && firsts[e] < from + n) {
                    result.entryPages[e] = result.pages.size();
                }
            }
            from += n;
        }
    }

    private void mustHaveRun() {
        if (latest == null) {
            throw new IllegalStateException();
        }
    }

    int about(int what) {
        within(what, 0, 4);
        mustHaveRun();
        return new int[] {latest.pages.size(), latest.passes, latest.settled ? 1 : 0,
            latest.lineSquares, latest.pageSquares}[what];
    }

    int page(int entry) {
        within(entry, 0, entries.size() - 1);
        mustHaveRun();
        within(entry, 0, latest.lines.size() - 1);
        return latest.entryPages[entry] == 0 ? -1 : latest.entryPages[entry];
    }

    int line(int page, int k, int what) {
        within(page, 1, Integer.MAX_VALUE);
        within(k, 0, height - 1);
        within(what, 0, 1);
        mustHaveRun();
        within(page, 1, latest.pages.size());
        List<Row> rows = latest.pages.get(page - 1);
        if (k >= rows.size()) {
            return -1;
        }
        return what == 0 ? rows.get(k).entry() : rows.get(k).line();
    }

    int sign(int entry, int l, int i) {
        within(entry, 0, entries.size() - 1);
        within(l, i == -1 ? -1 : 0, Integer.MAX_VALUE);
        within(i, -1, Integer.MAX_VALUE);
        mustHaveRun();
        within(entry, 0, latest.lines.size() - 1);
        List<String> lines = latest.lines.get(entry);
        if (l == -1) {
            return lines.size();
        }
        within(l, 0, lines.size() - 1);
        within(i, -1, lines.get(l).length() - 1);
        return i == -1 ? lines.get(l).length() : lines.get(l).charAt(i);
    }

    int index(int f, int k) {
        within(f, 0, 3);
        within(k, 0, Integer.MAX_VALUE);
        String all = " " + order;
        for (char c = 'a'; c <= 'z'; c++) {
            all += order.indexOf(c) < 0 ? String.valueOf(c) : "";
        }
        String ranks = all;
        List<Integer> listed = new ArrayList<>();
        for (int e = 0; e < entries.size(); e++) {
            if (!entries.get(e).fields[f].isEmpty()) {
                listed.add(e);
            }
        }
        // The sort is stable, so equal texts stay by numbers.
        listed.sort((a, b) -> ranked(entries.get(a).fields[f], ranks)
            .compareTo(ranked(entries.get(b).fields[f], ranks)));
        return k < listed.size() ? listed.get(k) : -1;
    }

    private static String ranked(String text, String ranks) {
        StringBuilder out = new StringBuilder();
        text.chars().forEach(c -> out.append((char) ('A' + ranks.indexOf(c))));
        return out.toString();
    }

    int count(int what) {
        within(what, 0, 2);
        return new int[] {pad.length(), templates.size(), entries.size()}[what];
    }
}
