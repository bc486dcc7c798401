/** The boundary cases that the document names ahead of its promises, each sentence on its own. */
public final class TermsBoundaryTest {
    private static final int LOW = Integer.MIN_VALUE;
    private static final int HIGH = Integer.MAX_VALUE;
    private static final String LETTERS_31 = "abcdefghijklmnopqrstuvwxyzabcde";

    private static Checks checks;

    public static void main(String[] args) {
        checks = new Checks("TermsBoundaryTest");
        checks.each(
            TermsBoundaryTest::calls512, TermsBoundaryTest::pageSizes, TermsBoundaryTest::padLengthAndSigns,
            TermsBoundaryTest::templateSigns, TermsBoundaryTest::partsWithEmptyFields,
            TermsBoundaryTest::templateSixMarks, TermsBoundaryTest::templateEmpty, TermsBoundaryTest::fieldTextSigns,
            TermsBoundaryTest::entriesAtFirst, TermsBoundaryTest::printedWhole, TermsBoundaryTest::wordsBetweenBlanks,
            TermsBoundaryTest::linesAtMostTheWidth, TermsBoundaryTest::linesLeastSquares,
            TermsBoundaryTest::linesFewestWords, TermsBoundaryTest::unitsOfEntries,
            TermsBoundaryTest::pagesAtMostTheHeight, TermsBoundaryTest::pagesLeastSquares,
            TermsBoundaryTest::pagesFewestUnits, TermsBoundaryTest::passesToldPages, TermsBoundaryTest::passesEnd,
            TermsBoundaryTest::indexOfField, TermsBoundaryTest::indexComparesSigns,
            TermsBoundaryTest::exceptionsInOrder);
        checks.end();
    }

    private static void calls512() {
        checks.sentence("What it is", "An object is used for at most 512 calls after it has been made; "
            + "what later calls answer is free.");
        CatalogueSet x = new CatalogueSet(6, 3);
        x.unit('#' + ('0' << 8), 0);
        x.template();
        x.entry(0);
        for (int call = 4; call <= 510; call += 3) {
            int letter = 'a' + call % 26;
            checks.due("unit as call " + call, 1, () -> x.unit(letter, 0));
            checks.due("field as call " + (call + 1), 1, () -> x.field(0, 0));
            checks.due("run as call " + (call + 2), 1, () -> x.run());
        }
        checks.due("sign as call 511", 'a' + 508 % 26, () -> x.sign(0, 0, 0));
        checks.due("run as call 512", 1, () -> x.run());
    }

    // ---- sizes and the pad

    private static void pageSizes() {
        checks.sentence("Terms, A PAGE", "A PAGE has WIDTH 6 .. 40 and HEIGHT 3 .. 30 (what the constructor is "
            + "given below or above that counts as the least or the greatest).");
        int[][] widths = {{LOW, 6}, {-1, 6}, {0, 6}, {5, 6}, {6, 6}, {7, 7}, {39, 39}, {40, 40}, {41, 40}, {HIGH, 40}};
        int[][] heights = {{LOW, 3}, {-1, 3}, {0, 3}, {2, 3}, {3, 3}, {4, 4}, {29, 29}, {30, 30}, {31, 30}, {HIGH, 30}};
        for (int[] width : widths) {
            for (int[] height : heights) {
                CatalogueSet x = new CatalogueSet(width[0], height[0]);
                checks.due("width of " + width[0] + ", " + height[0], width[1], widthOf(x));
                checks.due("height of " + width[0] + ", " + height[0], height[1], heightOf(x));
            }
        }
    }

    /** The longest word that can be set. */
    private static int widthOf(CatalogueSet x) {
        Checks.template(x, "#0#1");
        x.entry(0);
        int length = 20;
        Checks.field(x, 0, 0, LETTERS_31.substring(0, length));
        while (length > 0 && x.run() < 0) {
            length--;
            Checks.field(x, 0, 0, LETTERS_31.substring(0, length));
        }
        int more = 0;
        while (length + more < 60 && x.run() >= 0) {
            more++;
            Checks.field(x, 0, 1, LETTERS_31.substring(0, more));
        }
        Checks.field(x, 0, 1, "");
        return length + more - 1;
    }

    /** How many lines the first page has. */
    private static int heightOf(CatalogueSet x) {
        Checks.field(x, 0, 0, "a");
        x.run();
        int k = 0;
        while (k < 100 && !askLine(x, k).startsWith("I")) {
            k++;
        }
        return k;
    }

    private static String askLine(CatalogueSet x, int k) {
        return Checks.told(() -> x.line(1, k, 0));
    }

    private static void padLengthAndSigns() {
        checks.sentence("Terms, THE PAD", "THE PAD is a row of at most 32 SIGNS (32 .. 126).");
        CatalogueSet x = new CatalogueSet(6, 3);
        for (int n = 1; n <= 32; n++) {
            int signs = n;
            checks.due("sign " + n + " of the pad", n, () -> x.unit(31 + signs, 0));
        }
        checks.badState("sign 33 of the pad", () -> x.unit('a', 0));
        checks.due("a full pad", 32, () -> x.count(0));
        for (int sign = 1; sign <= 255; sign++) {
            int s = sign;
            CatalogueSet y = new CatalogueSet(6, 3);
            String want = sign >= 32 && sign <= 126 ? "1" : "IllegalArgumentException";
            checks.due("sign " + sign, want, Checks.told(() -> y.unit(s, 0)));
            checks.due("pad with sign " + sign, want.equals("1") ? 1 : 0, () -> y.count(0));
        }
    }

    // ---- templates and fields

    private static boolean isPlain(int sign) {
        return sign == ' ' || (sign >= 'a' && sign <= 'z');
    }

    private static void templateSigns() {
        checks.sentence("Terms, A TEMPLATE", "A TEMPLATE is made of \"a\" .. \"z\", \" \", \"#\" and a digit 0 .. 3 "
            + "(a FIELD), \"@\" and a digit 0 .. 7 (the PAGE of that entry, as a number), and PARTS, \"[\", then any "
            + "of these but a part, \"]\"");
        for (char sign = 32; sign <= 126; sign++) {
            boolean opens = sign == '#' || sign == '@';
            boolean plain = isPlain(sign);
            dueTemplate("" + sign, plain ? 0 : opens || sign == '[' ? -2 : -1);
            dueTemplate("a" + sign + "b", plain ? 0 : opens ? -3 : sign == '[' ? -4 : -2);
            dueTemplate("#" + sign, sign >= '0' && sign <= '3' ? 0 : -2);
            dueTemplate("@" + sign, sign >= '0' && sign <= '7' ? 0 : -2);
            dueTemplate("[" + sign, sign == ']' ? 0 : plain || opens ? -3 : -2);
            dueTemplate("[" + sign + "]", plain ? 0 : opens ? -3 : sign == ']' ? -3 : -2);
            dueTemplate("[#" + sign + "]", sign >= '0' && sign <= '3' ? 0 : -3);
            dueTemplate("[@" + sign + "]", sign >= '0' && sign <= '7' ? 0 : -3);
            dueTemplate("[]" + sign, plain ? 0 : opens || sign == '[' ? -4 : -3);
        }
        dueTemplate("[a][#0][@0][ ][]", 0);
        dueTemplate("[[]]", -2);
        dueTemplate("[a[b]c]", -3);
    }

    private static void dueTemplate(String text, int want) {
        CatalogueSet x = new CatalogueSet(6, 3);
        checks.due("template " + text, want, () -> Checks.template(x, text));
    }

    private static void partsWithEmptyFields() {
        checks.sentence("Terms, A TEMPLATE", "a part is printed only if none of its fields is empty.");
        // The template, fields 0 to 3, what is printed.
        String[][] rows = {
            {"a[b#0c]d", "", "", "", "", "ad"}, {"a[b#0c]d", "x", "", "", "", "abxcd"},
            {"a[b#0#1#2#3]", "x", "x", "x", "", "a"}, {"a[b#0#1#2#3]", "", "x", "x", "x", "a"},
            {"a[b#0#1#2#3]", "x", "y", "z", "q", "abxyzq"}, {"a[b#3]", "x", "x", "x", "", "a"},
            {"a[b#0]c", " ", "", "", "", "ab c"}, {"a[b]c", "", "", "", "", "abc"}, {"a[b@7]c", "", "", "", "", "ab0c"},
            {"a[b@7#1]c", "x", "", "x", "x", "ac"}, {"a[#0][#1]c", "", "y", "", "", "ayc"},
            {"a[#0][#1]c", "x", "", "", "", "axc"}, {"a#0[b]c", "", "", "", "", "abc"}, {"[]a[]", "", "", "", "", "a"},
            {"[#0]", "", "", "", "", ""}, {"[ ]", "", "", "", "", ""}};
        for (String[] row : rows) {
            CatalogueSet x = Checks.withEntries(40, 3, row[0], 1);
            for (int f = 0; f < 4; f++) {
                Checks.field(x, 0, f, row[1 + f]);
            }
            x.run();
            checks.due("printed " + row[0], row[5], Checks.lines(x, 0));
        }
    }

    private static void templateSixMarks() {
        checks.sentence("Terms, A TEMPLATE", "It has at most six fields and pages together");
        for (int kinds = 0; kinds < 64; kinds++) {
            StringBuilder six = new StringBuilder();
            for (int m = 0; m < 6; m++) {
                six.append((kinds >> m & 1) == 0 ? "#3" : "@7");
            }
            dueTemplate(six.toString(), 0);
            dueTemplate("[" + six + "]", 0);
            dueTemplate(six + "#0", -13);
            dueTemplate(six + "@0", -13);
            dueTemplate("[" + six + "#0]", -14);
            dueTemplate("[" + six + "][@0]", -16);
        }
        dueTemplate("#0a#0 #0[@0b@0]@0xyz", 0);
        dueTemplate("#0a#0 #0[@0b@0]@0xy[z#", -22);
    }

    private static void templateEmpty() {
        checks.sentence("Terms, A TEMPLATE", "an empty one may be.");
        CatalogueSet x = new CatalogueSet(6, 3);
        for (int t = 0; t < 6; t++) {
            checks.due("an empty template", t, () -> x.template());
        }
        x.entry(5);
        checks.due("run with an empty template", 0, () -> x.run());
        checks.due("its lines", 0, () -> x.sign(0, -1, -1));
    }

    private static void fieldTextSigns() {
        checks.sentence("Terms, A FIELD'S TEXT", "A FIELD'S TEXT is made of \"a\" .. \"z\" and \" \".");
        for (char sign = 32; sign <= 126; sign++) {
            for (String ahead : new String[] {"", "a", LETTERS_31}) {
                String text = ahead + sign;
                CatalogueSet x = Checks.withEntries(6, 3, "", 1);
                String want = isPlain(sign) ? String.valueOf(text.length()) : "IllegalArgumentException";
                checks.due("field " + text, want, Checks.told(() -> Checks.field(x, 0, 0, text)));
            }
        }
    }

    // ---- entries and their words

    private static void entriesAtFirst() {
        checks.sentence("Terms, ENTRIES", "ENTRIES are 0 .. 7, each with a template, four fields (empty at first), a "
            + "PICTURE so many lines high (0 at first: none), and CLAIMS 0 .. 3, each untold, told with a source or "
            + "without one.");
        CatalogueSet x = new CatalogueSet(20, 30);
        Checks.template(x, "[a#0][b#1][c#2][d#3]x");
        for (int e = 0; e < 8; e++) {
            int entry = e;
            checks.due("number of an entry", e, () -> x.entry(0));
            checks.outOfBounds("an entry that is not there yet", () -> x.picture(entry + 1, 0));
        }
        checks.due("run of new entries", 1, () -> x.run());
        for (int e = 0; e < 8; e++) {
            int entry = e;
            checks.due("a new entry's fields", "x", Checks.lines(x, e));
            checks.due("a new entry's picture", 0, () -> x.picture(entry, 0));
            for (int c = 0; c < 4; c++) {
                int claim = c;
                checks.due("a new entry's claim", -1, () -> x.claim(entry, claim, 0));
                checks.due("a claim without source", 0, () -> x.claim(entry, claim, 1));
                checks.due("a claim with a source", 1, () -> x.claim(entry, claim, -1));
            }
        }
        for (int f = 0; f < 4; f++) {
            checks.dueIndex(x, f);
        }
    }

    private static void printedWhole() {
        checks.sentence("Terms, PRINTED", "PRINTED, an entry is its template with fields and pages put in.");
        String most = "#0#1#2#3#0#3abcdefghijklmnopqrst";
        String text = "aaaa bbbb cccc dddd eeee ffff gg";
        CatalogueSet x = Checks.withEntries(40, 30, most, 8);
        for (int f = 0; f < 4; f++) {
            Checks.field(x, 7, f, text);
        }
        x.run();
        checks.due("the longest entry", text.repeat(6) + "abcdefghijklmnopqrst",
            Checks.lines(x, 7).replace('/', ' '));
        checks.due("one with empty fields", "abcdefghijklmnopqrst", Checks.lines(x, 0));
        CatalogueSet y = Checks.withEntries(40, 3, "@0@1@2@5@6@7", 7);
        y.run();
        // Three entries of a line come on each page; entry 7 is not there.
        checks.due("pages of the first and the last entries", "111230", Checks.lines(y, 0));
    }

    private static void wordsBetweenBlanks() {
        checks.sentence("Terms, PRINTED", "Its WORDS are the longest rows of its signs without \" \".");
        String[][] rows = {
            {"", "", ""}, {" ", "", ""}, {"   #0  ", "  ", ""}, {" a", "", "a"}, {"a ", "", "a"},
            {"  a  b  ", "", "a b"}, {"a#0b", "", "ab"}, {"a#0b", "x", "axb"}, {"a#0b", " ", "a b"},
            {"a#0b", " x", "a xb"}, {"a#0b", "x ", "ax b"}, {"#0#0", "x y", "x yx y"}, {"a@7b", "", "a0b"},
            {"a[ #0]b", "", "ab"}, {"a[ ]b", "", "a b"}};
        for (String[] row : rows) {
            CatalogueSet x = Checks.withEntries(40, 3, row[0], 1);
            Checks.field(x, 0, 0, row[1]);
            x.run();
            checks.due("words of " + row[0] + " with " + row[1], row[2], Checks.lines(x, 0));
        }
    }

    // ---- lines

    private static void dueLines(int width, String text, String want, int squares) {
        CatalogueSet x = Checks.withTexts(width, 30, text);
        x.run();
        checks.due("lines of " + text, want, Checks.lines(x, 0));
        checks.due("squares of " + text, squares, () -> x.about(3));
    }

    private static void linesAtMostTheWidth() {
        checks.sentence("Terms, LINES", "words with one \" \" between them, at most the width");
        dueLines(6, "", "", 0);
        dueLines(6, "aaa bb", "aaa bb", 0);
        dueLines(6, "aaa bbb", "aaa/bbb", 9);
        dueLines(7, "aaa bbb", "aaa bbb", 0);
        dueLines(6, "aaaaaa", "aaaaaa", 0);
        dueLines(6, "aaaaaa b", "aaaaaa/b", 0);
        dueLines(6, "a    b", "a b", 0);
        dueLines(32, LETTERS_31 + "f", LETTERS_31 + "f", 0);
        CatalogueSet x = Checks.withEntries(40, 3, "#0#1", 1);
        Checks.field(x, 0, 0, LETTERS_31);
        Checks.field(x, 0, 1, " fghijklm");
        x.run();
        checks.due("a line of 40 signs", LETTERS_31 + " fghijklm", Checks.lines(x, 0));
        Checks.field(x, 0, 1, " fghijklmn");
        x.run();
        checks.due("41 signs", LETTERS_31 + "/fghijklmn", Checks.lines(x, 0));
    }

    private static void linesLeastSquares() {
        checks.sentence("Terms, LINES", "the sum of the squares of what is left of the width in all lines of the entry "
            + "but the last is the least");
        // With the last line's 16 the other way, 9 + 1, would be less.
        dueLines(6, "aaa bb cc", "aaa bb/cc", 0);
        // One line only: the last, of which nothing counts.
        dueLines(6, "a", "a", 0);
        // As many as can be in the first line would be 0 + 16.
        dueLines(6, "aaa bb cc ddddd", "aaa/bb cc/ddddd", 10);
        // Without squares 6 + 0, with the fewest words ahead, would be as good as 2 + 4.
        dueLines(8, "aa bbb cccc dddddddd", "aa bbb/cccc/dddddddd", 20);
        CatalogueSet x = Checks.withTexts(6, 30, "aaaa b", "aaaa bbb", "aaaaa bbb cccc");
        x.run();
        checks.due("the last line of each entry is left out", 4 + 1 + 9, () -> x.about(3));
    }

    private static void linesFewestWords() {
        checks.sentence("Terms, LINES", "of such ways the one whose first line has the fewest words, then the second, "
            + "and so on.");
        // Both 9 + 1 and 1 + 9.
        dueLines(6, "aaa b aaa zzzzzz", "aaa/b aaa/zzzzzz", 10);
        dueLines(6, "ffffff aaa b aaa zzzzzz", "ffffff/aaa/b aaa/zzzzzz", 10);
        dueLines(6, "ffffff gggggg aaa b aaa zzzzzz", "ffffff/gggggg/aaa/b aaa/zzzzzz", 10);
        dueLines(6, "aaa b aaa zzzzzz aaa b aaa zzzz", "aaa/b aaa/zzzzzz/aaa/b aaa/zzzz", 20);
    }

    // ---- units and pages

    private static void unitsOfEntries() {
        checks.sentence("Terms, UNITS", "of each entry with lines first its picture with its first two lines (with its "
            + "only one, if there are no two), then each other line; of one without lines its picture, if there is "
            + "one.");
        // Two lines do not part, with a picture or without one.
        CatalogueSet x = Checks.withTexts(6, 3, "aaaaaa bbbbbb", "cccccc dddddd");
        checks.due("run with two lines each", 2, () -> x.run());
        checks.dueAbout(x, 2, 2, 1, 0, 1);
        checks.duePages(x, 1, 2);
        x.picture(0, 1);
        checks.due("run with a picture and two lines", 2, () -> x.run());
        dueRows(x, 1, 0, -1, 0, 0, 0, 1);
        x.picture(0, 2);
        checks.due("run with a picture and two lines too high", -101, () -> x.run());
        // The third line may leave them.
        CatalogueSet y = Checks.withTexts(6, 3, "aaaaaa bbbbbb cccccc dddddd");
        y.picture(0, 1);
        checks.due("run with four lines", 2, () -> y.run());
        dueRows(y, 1, 0, -1, 0, 0, 0, 1);
        dueRows(y, 2, 0, 2, 0, 3, -1, -1);
        // An only line stays with its picture.
        CatalogueSet z = Checks.withTexts(6, 3, "aaaaaa", "bbbbbb", "");
        z.picture(1, 2);
        checks.due("run with a picture and an only line", 2, () -> z.run());
        checks.duePages(z, 1, 2, -1);
        dueRows(z, 1, 0, 0, -1, -1, -1, -1);
        dueRows(z, 2, 1, -1, 1, -1, 1, 0);
        // A picture alone is a unit; without one there is none.
        z.picture(2, 3);
        checks.due("run with a picture alone", 3, () -> z.run());
        checks.duePages(z, 1, 2, 3);
        dueRows(z, 3, 2, -1, 2, -1, 2, -1);
    }

    /** For each row of a page its entry and which of its lines it is. */
    private static void dueRows(CatalogueSet x, int page, int... want) {
        for (int k = 0; k < want.length / 2; k++) {
            int row = k;
            checks.due("entry of row " + k + " on page " + page, want[2 * k], () -> x.line(page, row, 0));
            checks.due("line of row " + k + " on page " + page, want[2 * k + 1], () -> x.line(page, row, 1));
        }
    }

    private static void duePictures(int height, int[] pictures, int[] pages, int squares) {
        CatalogueSet x = Checks.withPictures(height, pictures);
        x.run();
        checks.duePages(x, pages);
        checks.due("squares of pages", squares, () -> x.about(4));
    }

    private static void pagesAtMostTheHeight() {
        checks.sentence("Terms, UNITS", "They come by entries on PAGES 1, 2, .., each as high as the height at most, "
            + "no unit on two");
        duePictures(3, new int[] {}, new int[] {}, 0);
        duePictures(3, new int[] {1, 2}, new int[] {1, 1}, 0);
        duePictures(3, new int[] {2, 2}, new int[] {1, 2}, 1);
        duePictures(3, new int[] {3, 3}, new int[] {1, 2}, 0);
        duePictures(30, new int[] {15, 15}, new int[] {1, 1}, 0);
        duePictures(30, new int[] {15, 16}, new int[] {1, 2}, 225);
        duePictures(30, new int[] {30, 30, 30, 30, 30, 30, 30, 30}, new int[] {1, 2, 3, 4, 5, 6, 7, 8}, 0);
        // Entries 0 and 2 would fill a page, but entry 1 comes between them.
        duePictures(4, new int[] {2, 3, 2}, new int[] {1, 2, 3}, 5);
    }

    private static void pagesLeastSquares() {
        checks.sentence("Terms, UNITS", "the sum of the squares of the empty lines of all pages but the last is the "
            + "least");
        // With the last page's 25 the other way, 9 + 4, would be less.
        duePictures(6, new int[] {3, 3, 1}, new int[] {1, 1, 2}, 0);
        // As many as can be on the first page would be 1 + 16.
        duePictures(6, new int[] {3, 2, 2, 5}, new int[] {1, 2, 2, 3}, 13);
        // Without squares 5 + 0, with the fewest units ahead, would be as good as 3 + 2.
        duePictures(6, new int[] {1, 2, 4, 6}, new int[] {1, 1, 2, 3}, 13);
        duePictures(6, new int[] {1}, new int[] {1}, 0);
        duePictures(6, new int[] {1, 6}, new int[] {1, 2}, 25);
    }

    private static void pagesFewestUnits() {
        checks.sentence("Terms, UNITS", "of such ways the one whose first page has the fewest units, then the second, "
            + "and so on.");
        // Both 9 + 4 and 4 + 9.
        duePictures(6, new int[] {3, 1, 3, 6}, new int[] {1, 2, 2, 3}, 13);
        duePictures(6, new int[] {6, 3, 1, 3, 6}, new int[] {1, 2, 3, 3, 4}, 13);
        duePictures(6, new int[] {3, 1, 3, 6, 3, 1, 3, 6}, new int[] {1, 2, 2, 3, 4, 5, 5, 6}, 26);
    }

    // ---- passes

    private static void passesToldPages() {
        checks.sentence("Terms, PASSES", "in the first one all pages of entries are 0; in each next one they are those "
            + "on which the entries' first units came in the pass before (0 for entries without units, or that are "
            + "not there).");
        CatalogueSet x = new CatalogueSet(6, 3);
        Checks.template(x, "@0@1@2@7");
        Checks.template(x, " ");
        x.entry(0);
        x.entry(1);
        x.entry(1);
        x.picture(0, 2);
        x.picture(2, 3);
        checks.due("run", 2, () -> x.run());
        checks.due("entry 1 has no units, entry 7 is not there", "1020", Checks.lines(x, 0));
        // Pages of the run before are not told to the first pass of the next one: here they
        // would make a word too long.
        CatalogueSet y = withFarPicture();
        checks.due("run with a far picture", 11, () -> y.run());
        checks.due("a page of two digits", "abcd11", Checks.lines(y, 2));
        y.picture(1, 0);
        Checks.field(y, 2, 0, "e");
        checks.due("run without it", 11, () -> y.run());
        checks.due("a page of one digit", "abcd0e", Checks.lines(y, 2));
        // The fifth pass still has the pages of the fourth: see passesEnd.
        CatalogueSet z = unsettled();
        z.run();
        checks.due("page in the fifth pass", 10, () -> z.page(3));
        checks.due("page that it was told", "aaa a9", Checks.lines(z, 4));
    }

    /** Thirty lines on ten pages, a picture on page 11, and an entry that tells its page. */
    private static CatalogueSet withFarPicture() {
        CatalogueSet x = new CatalogueSet(6, 3);
        Checks.template(x, "#0 #0 #0 #0 #0");
        Checks.template(x, "");
        Checks.template(x, "abcd@1#0");
        for (int t = 0; t < 3; t++) {
            x.entry(t);
        }
        Checks.field(x, 0, 0, "aaa aaa aaa aaa aaa aaa");
        x.picture(1, 1);
        return x;
    }

    /**
     * 24 lines on eight pages of three, then by the templates given entries 1, 2, 3, 4 of one
     * line each while all pages have one digit: 1, 2 and 3 on page 9, 4 on page 10.
     */
    private static CatalogueSet withFourBehind(String... templates) {
        CatalogueSet x = new CatalogueSet(6, 3);
        Checks.template(x, "#0 #0 #0 #0 #0 #0");
        x.entry(0);
        Checks.field(x, 0, 0, "aaa aaa aaa aaa");
        for (String template : templates) {
            x.entry(Checks.template(x, template));
        }
        return x;
    }

    /** With 9 in it, entry 4 comes with entry 3 on page 10; with 10, entry 3 on page 9. */
    private static CatalogueSet unsettled() {
        CatalogueSet x = new CatalogueSet(6, 5);
        Checks.template(x, "#0 #0 #0 #0 #0 #0");
        Checks.template(x, "");
        Checks.template(x, "aaa a@3");
        Checks.field(x, x.entry(0), 0, "aaaaaa bbbbbb cccccc");
        Checks.field(x, x.entry(0), 0, "aaaaaa bbbbbb cccccc dddddd");
        int[][] behind = {{1, 1}, {1, 1}, {2, 3}, {1, 3}};
        for (int[] row : behind) {
            x.picture(x.entry(row[0]), row[1]);
        }
        return x;
    }

    private static void passesEnd() {
        checks.sentence("Terms, PASSES", "Passes end when no entry's page is another one than it was told, or with the "
            + "fifth.");
        // One pass: no entry, or none with units, so that 0 is right for all.
        duePasses(new CatalogueSet(6, 3), 1, 1);
        duePasses(Checks.withEntries(6, 3, "[#0@0]", 8), 1, 1);
        // Two: pages are told, and they stay.
        CatalogueSet two = withFourBehind("aaaa", "aaaa", "aaaa", "aaaa");
        duePasses(two, 2, 1);
        checks.duePages(two, 1, 9, 9, 9, 10);
        // Three: entry 2's second line drives entry 3 to page 10.
        CatalogueSet three = withFourBehind("aaaa", "aaaa @4", "aaaa", "aaaa");
        duePasses(three, 3, 1);
        checks.duePages(three, 1, 9, 9, 10, 10);
        // Four: and then come entry 1's and entry 3's own second lines.
        CatalogueSet four = withFourBehind("aaaa @3", "aaaa @4", "aaaa @3", "a@2");
        duePasses(four, 4, 1);
        checks.duePages(four, 1, 9, 10, 11, 11);
        // Five: and then entry 4's, and only the fifth pass has what it told.
        CatalogueSet five = withFourBehind("aaaa @3", "aaaa @4", "aaaa @3", "a@2 a@4");
        duePasses(five, 5, 1);
        checks.duePages(five, 1, 9, 10, 11, 12);
        checks.due("lines of the last entry", "a10/a12", Checks.lines(five, 4));
        // Five, and a sixth would be another one again.
        duePasses(unsettled(), 5, 0);
    }

    private static void duePasses(CatalogueSet x, int passes, int settled) {
        x.run();
        checks.due("passes", passes, () -> x.about(1));
        checks.due("whether they settled", settled, () -> x.about(2));
    }

    // ---- the index

    private static void indexOfField() {
        checks.sentence("Terms, The INDEX", "The INDEX of a field has all entries whose field is not empty, by their "
            + "texts, of equal ones by numbers");
        CatalogueSet x = Checks.withTexts(6, 3, "", "", "", "", "", "", "", "");
        checks.dueIndex(x, 0);
        Checks.field(x, 7, 0, "b");
        checks.dueIndex(x, 0, 7);
        Checks.field(x, 3, 0, "b");
        checks.dueIndex(x, 0, 3, 7);
        Checks.field(x, 5, 0, " ");
        checks.dueIndex(x, 0, 5, 3, 7);
        for (int e = 0; e < 8; e++) {
            Checks.field(x, e, 0, "abcdefghijklmnopqrstuvwxyzabcdef");
        }
        checks.dueIndex(x, 0, 0, 1, 2, 3, 4, 5, 6, 7);
        Checks.field(x, 0, 0, "abcdefghijklmnopqrstuvwxyzabcdeg");
        checks.dueIndex(x, 0, 1, 2, 3, 4, 5, 6, 7, 0);
        x.field(4, 0);
        checks.dueIndex(x, 0, 1, 2, 3, 5, 6, 7, 0);
        for (int f = 1; f < 4; f++) {
            checks.dueIndex(x, f);
        }
    }

    private static void indexComparesSigns() {
        checks.sentence("Terms, The INDEX", "signs are compared one by one, \" \" first, then the letters of the ORDER "
            + "as told, then all others by the alphabet; a beginning comes first.");
        CatalogueSet x = Checks.withTexts(6, 3, "z", "ab", "  ", "aa", "a ", "a", "m", " ");
        checks.dueIndex(x, 0, 7, 2, 5, 4, 3, 1, 6, 0);
        Checks.order(x, "z");
        checks.dueIndex(x, 0, 7, 2, 0, 5, 4, 3, 1, 6);
        Checks.order(x, "mb");
        checks.dueIndex(x, 0, 7, 2, 6, 5, 4, 1, 3, 0);
        Checks.order(x, "zyxwvutsrqponmlkjihgfedcba");
        checks.dueIndex(x, 0, 7, 2, 0, 6, 5, 4, 1, 3);
        x.order();
        checks.dueIndex(x, 0, 7, 2, 5, 4, 3, 1, 6, 0);
    }

    // ---- exceptions

    private static void exceptionsInOrder() {
        checks.sentence("Terms, EXCEPTIONS", "IndexOutOfBoundsException: there is no such template, entry, field, "
            + "claim, place, line. IllegalStateException, then IllegalArgumentException, as told.");
        CatalogueSet x = new CatalogueSet(6, 3);
        for (int t = 0; t < 6; t++) {
            x.template();
        }
        for (int e = 0; e < 8; e++) {
            x.entry(e % 6);
        }
        Checks.put(x, LETTERS_31 + "A");
        checks.outOfBounds("a ninth entry without template", () -> x.entry(6));
        checks.outOfBounds("no field with a wrong text", () -> x.field(7, 4));
        checks.outOfBounds("no entry with a wrong text", () -> x.field(8, 0));
        checks.outOfBounds("no claim with a wrong source", () -> x.claim(7, 4, 2));
        checks.outOfBounds("no entry with a wrong source", () -> x.claim(8, 3, -2));
        checks.outOfBounds("no entry with a wrong picture", () -> x.picture(8, 31));
        checks.outOfBounds("nothing such about no run", () -> x.about(5));
        checks.outOfBounds("no entry in no run", () -> x.page(8));
        checks.outOfBounds("neither in no run", () -> x.line(1, 0, 2));
        checks.outOfBounds("no line of a page in no run", () -> x.line(1, 3, 0));
        checks.outOfBounds("no entry's sign in no run", () -> x.sign(8, 0, 0));
        checks.badState("a wrong sign behind a full pad", () -> x.unit(31, 0));
        checks.badState("a seventh, wrong template", () -> x.template());
    }
}
