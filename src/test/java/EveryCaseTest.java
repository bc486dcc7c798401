import java.util.ArrayList;
import java.util.HashSet;
import java.util.List;
import java.util.Set;

/**
 * Small cases, all of them. What is due is not read from a case but found by building up what
 * there can be: every template, every way to fill lines and pages, every text in its order.
 */
public final class EveryCaseTest {
    private static final Checks checks = new Checks("EveryCaseTest");

    public static void main(String[] args) {
        checks.each(() -> shortTemplates(4), () -> fewWords(6, 6, 7), () -> fewWords(9, 5, 5),
            () -> fewEntries(3, 3, 3, 4), () -> fewEntries(5, 3, 5, 4), () -> fewEntries(4, 4, 2, 3),
            () -> twoTexts(""), () -> twoTexts("b"), () -> twoTexts("cb"), () -> twoTexts("za"),
            () -> twoTexts("zcba"));
        checks.end();
    }

    /** The numbers that a case stands for, each below its base. */
    private static int[] digits(int number, int base, int places) {
        int[] found = new int[places];
        int rest = number;
        for (int i = 0; i < places; i++) {
            found[i] = rest % base;
            rest /= base;
        }
        return found;
    }

    private static int power(int base, int places) {
        int cases = 1;
        for (int i = 0; i < places; i++) {
            cases *= base;
        }
        return cases;
    }

    // ---- promise 3: every text of a few signs as a template

    private static void shortTemplates(int longest) {
        Set<String> templates = new HashSet<>();
        // A beginning needs at most a digit and "]" to become a template.
        growTemplates("", false, longest + 2, templates);
        Set<String> beginnings = new HashSet<>();
        for (String template : templates) {
            for (int end = 0; end <= template.length(); end++) {
                beginnings.add(template.substring(0, end));
            }
        }
        String signs = "az #@[]03478A`{";
        for (int length = 0; length <= longest; length++) {
            for (int n = power(signs.length(), length) - 1; n >= 0; n--) {
                StringBuilder text = new StringBuilder();
                for (int digit : digits(n, signs.length(), length)) {
                    text.append(signs.charAt(digit));
                }
                dueTemplate(text.toString(), templates, beginnings);
            }
        }
    }

    private static void growTemplates(String text, boolean inPart, int longest, Set<String> templates) {
        if (text.length() > longest) {
            return;
        }
        if (!inPart) {
            templates.add(text);
        }
        for (String piece : new String[] {"a", "z", " ", "#0", "#3", "@0", "@3", "@4", "@7"}) {
            growTemplates(text + piece, inPart, longest, templates);
        }
        growTemplates(text + (inPart ? "]" : "["), !inPart, longest, templates);
    }

    private static void dueTemplate(String text, Set<String> templates, Set<String> beginnings) {
        int place = 0;
        while (place < text.length() && beginnings.contains(text.substring(0, place + 1))) {
            place++;
        }
        CatalogueSet x = new CatalogueSet(6, 3);
        checks.due("template '" + text + "'", templates.contains(text) ? 0 : -1 - place, Checks.template(x, text));
        checks.due("pad behind '" + text + "'", 0, x.count(0));
        checks.due("templates behind '" + text + "'", templates.contains(text) ? 1 : 0, x.count(1));
    }

    // ---- lines: every row of a few short words, by every way to break it

    private static void fewWords(int width, int most, int longest) {
        for (int words = 0; words <= most; words++) {
            for (int n = power(longest, words) - 1; n >= 0; n--) {
                List<Integer> sizes = new ArrayList<>();
                for (int digit : digits(n, longest, words)) {
                    sizes.add(digit + 1);
                }
                dueLines(width, sizes);
            }
        }
    }

    private static void dueLines(int width, List<Integer> sizes) {
        CatalogueSet x = Checks.withEntries(width, 30, "#0 #1", 1);
        List<String> words = new ArrayList<>();
        for (int size : sizes) {
            words.add(String.valueOf((char) ('a' + words.size())).repeat(size));
        }
        int half = words.size() / 2;
        Checks.field(x, 0, 0, String.join(" ", words.subList(0, half)));
        Checks.field(x, 0, 1, String.join(" ", words.subList(half, words.size())));
        Model.Way way = Model.bestOfAll(sizes, width, 1);
        if (way == null) {
            checks.due("run() with " + words, -101, x.run());
            return;
        }
        List<String> lines = new ArrayList<>();
        int from = 0;
        for (int inLine : way.rows()) {
            lines.add(String.join(" ", words.subList(from, from + inLine)));
            from += inLine;
        }
        x.run();
        checks.due("lines of " + words, String.join("/", lines), Checks.lines(x, 0));
        checks.due("squares of " + words, way.squares(), x.about(3));
    }

    // ---- pages: every few entries with low pictures and a few lines, by every way to break them

    private static void fewEntries(int height, int entries, int highest, int mostLines) {
        int kinds = (highest + 1) * (mostLines + 1);
        for (int n = power(kinds, entries) - 1; n >= 0; n--) {
            int[] pictures = digits(n, kinds, entries);
            int[] lines = new int[entries];
            for (int e = 0; e < entries; e++) {
                lines[e] = pictures[e] / (highest + 1);
                pictures[e] %= highest + 1;
            }
            dueBook(height, pictures, lines);
        }
    }

    /** Rows of a unit as texts: the entry, and its line or "p". */
    private static List<List<String>> unitsOf(int entry, int picture, int lines) {
        List<List<String>> units = new ArrayList<>();
        if (picture == 0 && lines == 0) {
            return units;
        }
        List<String> first = new ArrayList<>();
        for (int row = 0; row < picture; row++) {
            first.add(entry + "p");
        }
        for (int l = 0; l < Math.min(2, lines); l++) {
            first.add(entry + "" + l);
        }
        units.add(first);
        for (int l = 2; l < lines; l++) {
            units.add(List.of(entry + "" + l));
        }
        return units;
    }

    private static void dueBook(int height, int[] pictures, int[] lines) {
        CatalogueSet x = Checks.withEntries(6, height, "#0", pictures.length);
        List<List<String>> units = new ArrayList<>();
        int tooHigh = -1;
        StringBuilder name = new StringBuilder("height " + height);
        for (int e = 0; e < pictures.length; e++) {
            x.picture(e, pictures[e]);
            Checks.field(x, e, 0, "abcdef ".repeat(lines[e]).trim());
            units.addAll(unitsOf(e, pictures[e], lines[e]));
            tooHigh = tooHigh < 0 && pictures[e] + Math.min(2, lines[e]) > height ? e : tooHigh;
            name.append(", picture ").append(pictures[e]).append(" with ").append(lines[e]);
        }
        if (tooHigh >= 0) {
            checks.due("run() of " + name, -101 - tooHigh, x.run());
            return;
        }
        Model.Way way = Model.bestOfAll(units.stream().map(List::size).toList(), height, 0);
        checks.due("run() of " + name, way.rows().size(), x.run());
        checks.due("pages of " + name, pagesOf(units, way, height), pagesOf(x, height));
        checks.due("squares of " + name, way.squares(), x.about(4));
        checks.due("passes of " + name, units.isEmpty() ? 1 : 2, x.about(1));
    }

    private static String pagesOf(List<List<String>> units, Model.Way way, int height) {
        StringBuilder pages = new StringBuilder();
        int from = 0;
        for (int onPage : way.rows()) {
            List<String> rows = new ArrayList<>();
            units.subList(from, from + onPage).forEach(rows::addAll);
            from += onPage;
            while (rows.size() < height) {
                rows.add("..");
            }
            pages.append(String.join(" ", rows)).append('/');
        }
        return pages.toString();
    }

    private static String pagesOf(CatalogueSet x, int height) {
        StringBuilder pages = new StringBuilder();
        for (int page = 1; page <= x.about(0); page++) {
            for (int k = 0; k < height; k++) {
                int entry = x.line(page, k, 0);
                int line = x.line(page, k, 1);
                pages.append(k == 0 ? "" : " ").append(entry < 0 ? "." : entry);
                pages.append(line >= 0 ? line : entry < 0 ? "." : "p");
            }
            pages.append('/');
        }
        return pages.toString();
    }

    // ---- the index: every two texts of a few signs, listed as they come

    private static void twoTexts(String order) {
        StringBuilder signs = new StringBuilder(" " + order);
        for (char letter : "abcz".toCharArray()) {
            signs.append(order.indexOf(letter) < 0 ? String.valueOf(letter) : "");
        }
        List<String> listed = new ArrayList<>();
        listTexts("", signs.toString(), 3, listed);
        for (int i = 0; i < listed.size(); i++) {
            for (int j = 0; j < listed.size(); j++) {
                CatalogueSet x = Checks.withTexts(6, 3, listed.get(i), listed.get(j));
                Checks.order(x, order);
                checks.due("index of '" + listed.get(i) + "' and '" + listed.get(j) + "' by '" + order + "'",
                    i <= j ? "0 1 -1" : "1 0 -1", x.index(0, 0) + " " + x.index(0, 1) + " " + x.index(0, 2));
            }
        }
    }

    /** A text, then all that begin with it. */
    private static void listTexts(String text, String signs, int longest, List<String> listed) {
        if (!text.isEmpty()) {
            listed.add(text);
        }
        for (int i = 0; i < signs.length() && text.length() < longest; i++) {
            listTexts(text + signs.charAt(i), signs, longest, listed);
        }
    }
}
