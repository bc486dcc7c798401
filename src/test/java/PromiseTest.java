/** Each promise by hand: ordinary calls, the edges that the document names, wrong calls. */
public final class PromiseTest {
    private static final int LOW = Integer.MIN_VALUE;
    private static final int HIGH = Integer.MAX_VALUE;
    private static final String LETTERS_32 = "abcdefghijklmnopqrstuvwxyzabcdef";

    private static Checks checks;

    public static void main(String[] args) {
        checks = new Checks("PromiseTest");
        newObject();
        sizesAreBounded();
        unitAddsSigns();
        unitRefuses();
        templateAccepts();
        templateRefuses();
        templateMostSix();
        entryMakes();
        fieldTakesPad();
        claimIsTold();
        pictureIsTold();
        orderTakesPad();
        runRefuses();
        runRefusesInLaterPass();
        runPrintsParts();
        runBreaksLines();
        runBreaksPages();
        runPasses();
        runDoesNotSettle();
        runPrintsTheLongest();
        runPrintsThreeDigits();
        runSumsTheGreatestSquares();
        aboutTells();
        pageTells();
        lineTells();
        signTells();
        indexSorts();
        countTells();
        checks.end();
    }

    // ---- promise 1

    private static void newObject() {
        CatalogueSet x = new CatalogueSet(10, 5);
        for (int what = 0; what < 3; what++) {
            int w = what;
            checks.due("count of a new one", 0, () -> x.count(w));
        }
        checks.due("index of a new one", -1, () -> x.index(0, 0));
        checks.badState("about of a new one", () -> x.about(0));
        checks.outOfBounds("entry of a new one", () -> x.entry(0));
        checks.outOfBounds("page of a new one", () -> x.page(0));
        checks.badState("line of a new one", () -> x.line(1, 0, 0));
        checks.due("run of a new one", 0, () -> x.run());
        checks.due("NONE", -1, () -> CatalogueSet.NONE);
    }

    private static void sizesAreBounded() {
        int[][] sizes = {{LOW, LOW, 6, 3}, {5, 2, 6, 3}, {6, 3, 6, 3}, {7, 4, 7, 4}, {39, 29, 39, 29},
            {40, 30, 40, 30}, {41, 31, 40, 30}, {HIGH, HIGH, 40, 30}};
        for (int[] size : sizes) {
            CatalogueSet x = Checks.withEntries(size[0], size[1], "#0#1", 1);
            Checks.field(x, 0, 0, LETTERS_32.substring(0, 6));
            Checks.field(x, 0, 1, (LETTERS_32 + LETTERS_32).substring(0, Math.min(32, size[2] - 6)));
            if (size[2] == 40) {
                Checks.field(x, 0, 0, LETTERS_32.substring(0, 8));
            } else if (size[2] == 39) {
                Checks.field(x, 0, 0, LETTERS_32.substring(0, 7));
            }
            checks.due("run with a word as wide as the page", 1, () -> x.run());
            checks.due("its signs", size[2], () -> x.sign(0, 0, -1));
            checks.due("line at the foot", -1, () -> x.line(1, size[3] - 1, 0));
            checks.outOfBounds("line below the foot", () -> x.line(1, size[3], 0));
            x.picture(0, size[3] - 1);
            checks.due("run with a picture that fills the page", 1, () -> x.run());
            if (size[3] < 30) {
                x.picture(0, size[3]);
                checks.due("run with a picture too high", -101, () -> x.run());
            }
            x.picture(0, 0);
            Checks.field(x, 0, 0, LETTERS_32.substring(0, size[2] == 40 ? 9 : size[2] == 39 ? 8 : 7));
            checks.due("run with a word too long", -101, () -> x.run());
        }
    }

    // ---- promise 2

    private static void unitAddsSigns() {
        CatalogueSet x = new CatalogueSet(20, 5);
        checks.due("unit of nothing", 0, () -> x.unit(0, 0));
        checks.due("unit of a then b", 8, () -> x.unit(0x64636261, 0x68676665));
        checks.due("unit with gaps", 12, () -> x.unit(0x6a006900, 0x006c006b));
        x.template();
        x.entry(0);
        x.run();
        checks.due("signs in their order", "abcdefghijkl", Checks.lines(x, 0));
        checks.due("unit of the least and the greatest sign", 2, () -> x.unit(32, 126));
    }

    private static void unitRefuses() {
        CatalogueSet x = new CatalogueSet(20, 5);
        x.unit('a', 0);
        int[] wrong = {1, 31, 127, 128, 255, -1, 0x1f000000, 0x7f0000, 0x8000, LOW, 0x61616107};
        for (int w : wrong) {
            checks.badArgument("unit(" + w + ", 0)", () -> x.unit(w, 0));
            checks.badArgument("unit(0, " + w + ")", () -> x.unit('b', w));
            checks.due("pad behind a wrong sign", 1, () -> x.count(0));
        }
        Checks.put(x, LETTERS_32.substring(0, 27));
        checks.badState("unit with 28 + 5", () -> x.unit(0x61616161, 'a'));
        checks.badState("unit with 28 + 5, one wrong", () -> x.unit(0x61616161, 31));
        checks.due("pad behind too many", 28, () -> x.count(0));
        checks.due("unit with 28 + 4", 32, () -> x.unit(0x00610061, 0x61006100));
        checks.due("unit of nothing on a full pad", 32, () -> x.unit(0, 0));
        checks.badState("unit on a full pad", () -> x.unit(0, 'a'));
        checks.badState("unit of a wrong sign on a full pad", () -> x.unit(200, 0));
        checks.due("a full pad stays", 32, () -> x.count(0));
    }

    // ---- promise 3

    private static void templateAccepts() {
        String[] good = {"", "abc xyz ", "#0#1#2#3", "@0@7", "[]", "[#0 a@1][b]c", "#0#0#0@1@1@1 [a]",
            "[#0#1#2]x[@1@2@3]", LETTERS_32, " ", "#3@0"};
        for (String text : good) {
            CatalogueSet x = new CatalogueSet(20, 5);
            checks.due("template " + text, 0, () -> Checks.template(x, text));
            checks.due("pad behind a template", 0, () -> x.count(0));
            checks.due("templates", 1, () -> x.count(1));
        }
    }

    private static void templateRefuses() {
        Object[][] bad = {{"#", 1}, {"@", 1}, {"a#4", 2}, {"a@8", 2}, {"#a", 1}, {"@ ", 1}, {"##", 1}, {"#/", 1},
            {"@/", 1}, {"[a", 2}, {"[", 1}, {"[[]", 1}, {"[a[b]]", 2}, {"a]", 1}, {"[a]]", 3}, {"A", 0},
            {"ab{", 2}, {"ab`", 2}, {"5", 0}, {"a!", 1}, {"#0#0#0#0#0#0#0", 12}, {"#0#0#0@0@0@0@0", 12},
            {"#0#0#0[@0@0@0@0]", 13}, {"#0#0#0#0#0#0#", 12}, {"[#]", 2}, {"[#0", 3}, {"[#", 2}, {"#]", 1},
            {"abcdefghijklmnopqrstuvwxyzabcde#", 32}, {"abcdefghijklmnopqrstuvwxyzabcde[", 32},
            {"abcdefghijklmnopqrstuvwxyzabcde]", 31}, {"aaaaaAaaaa#9", 5}};
        CatalogueSet x = new CatalogueSet(20, 5);
        for (Object[] row : bad) {
            checks.due("template " + row[0], -1 - (Integer) row[1], () -> Checks.template(x, (String) row[0]));
            checks.due("pad behind a wrong template", 0, () -> x.count(0));
            checks.due("templates behind a wrong one", 0, () -> x.count(1));
        }
    }

    private static void templateMostSix() {
        CatalogueSet x = new CatalogueSet(20, 5);
        for (int t = 0; t < 6; t++) {
            int want = t;
            checks.due("template number", want, () -> Checks.template(x, "a"));
        }
        Checks.put(x, "ab");
        checks.badState("a seventh template", () -> x.template());
        checks.due("pad behind a seventh", 2, () -> x.count(0));
        Checks.put(x, "#A");
        checks.badState("a seventh, wrong template", () -> x.template());
        checks.due("pad behind a seventh, wrong one", 4, () -> x.count(0));
        checks.due("templates", 6, () -> x.count(1));
    }

    // ---- promise 4

    private static void entryMakes() {
        CatalogueSet x = new CatalogueSet(20, 5);
        Checks.template(x, "one");
        Checks.template(x, "two");
        checks.outOfBounds("entry(-1)", () -> x.entry(-1));
        checks.outOfBounds("entry(2)", () -> x.entry(2));
        checks.due("entries behind wrong ones", 0, () -> x.count(2));
        for (int e = 0; e < 8; e++) {
            int want = e;
            checks.due("entry number", want, () -> x.entry(want % 2));
        }
        checks.badState("a ninth entry", () -> x.entry(1));
        checks.outOfBounds("a ninth entry of no template", () -> x.entry(2));
        checks.outOfBounds("a ninth entry of no template", () -> x.entry(HIGH));
        checks.due("entries", 8, () -> x.count(2));
        x.run();
        checks.due("an entry of template 0", "one", Checks.lines(x, 6));
        checks.due("an entry of template 1", "two", Checks.lines(x, 7));
    }

    // ---- promise 5

    private static void fieldTakesPad() {
        CatalogueSet x = Checks.withEntries(20, 5, "#3 #0", 2);
        checks.due("field", 3, () -> Checks.field(x, 1, 3, "abz"));
        checks.due("pad behind a field", 0, () -> x.count(0));
        checks.due("field with blanks", 4, () -> Checks.field(x, 1, 0, " x  "));
        x.run();
        checks.due("both fields", "abz x", Checks.lines(x, 1));
        checks.due("the other entry's fields", "", Checks.lines(x, 0));
        checks.due("an empty field", 0, () -> x.field(1, 3));
        x.run();
        checks.due("one field", "x", Checks.lines(x, 1));
        checks.due("a field of 32", 32, () -> Checks.field(x, 0, 1, LETTERS_32));

        Checks.put(x, "ab");
        int[][] nowhere = {{-1, 0}, {2, 0}, {8, 0}, {0, -1}, {0, 4}, {LOW, HIGH}};
        for (int[] at : nowhere) {
            checks.outOfBounds("field(" + at[0] + ", " + at[1] + ")", () -> x.field(at[0], at[1]));
        }
        checks.due("pad behind no field", 2, () -> x.count(0));
        Checks.put(x, "A");
        checks.badArgument("no field's text", () -> x.field(0, 0));
        checks.outOfBounds("no field's text for no field", () -> x.field(0, 4));
        checks.due("pad behind no field's text", 3, () -> x.count(0));
        for (String text : new String[] {"a`", "a{", "#0", "a!", "1", "[", "~"}) {
            CatalogueSet y = Checks.withEntries(20, 5, "#0", 1);
            Checks.field(y, 0, 0, "old");
            checks.badArgument("field " + text, () -> Checks.field(y, 0, 0, text));
            y.run();
            checks.due("the field stays", "old", Checks.lines(y, 0));
        }
    }

    // ---- promise 6

    private static void claimIsTold() {
        CatalogueSet x = Checks.withEntries(20, 5, "a", 3);
        checks.due("an untold claim", -1, () -> x.claim(1, 0, 0));
        checks.due("a claim without source", 0, () -> x.claim(1, 0, 1));
        checks.due("a claim with a source", 1, () -> x.claim(1, 0, 1));
        checks.due("a claim with a source", 1, () -> x.claim(1, 0, -1));
        checks.due("a claim not told any more", -1, () -> x.claim(1, 0, -1));
        checks.due("the last claim", -1, () -> x.claim(1, 3, 1));
        checks.due("another entry's claim", -1, () -> x.claim(2, 3, 1));
        int[][] nowhere = {{-1, 0}, {3, 0}, {0, -1}, {0, 4}, {HIGH, LOW}};
        for (int[] at : nowhere) {
            checks.outOfBounds("claim at " + at[0] + ", " + at[1], () -> x.claim(at[0], at[1], 0));
            checks.outOfBounds("wrong claim at " + at[0] + ", " + at[1], () -> x.claim(at[0], at[1], 2));
        }
        for (int source : new int[] {-2, 2, LOW, HIGH}) {
            checks.badArgument("claim with " + source, () -> x.claim(1, 3, source));
        }
        checks.due("the claim stays", 1, () -> x.claim(1, 3, 1));
    }

    // ---- promise 7

    private static void pictureIsTold() {
        CatalogueSet x = Checks.withEntries(20, 5, "a", 2);
        checks.due("no picture", 0, () -> x.picture(1, 30));
        checks.due("the highest picture", 30, () -> x.picture(1, 4));
        checks.due("the other entry's picture", 0, () -> x.picture(0, 0));
        for (int h : new int[] {-1, 31, LOW, HIGH}) {
            checks.badArgument("picture of " + h, () -> x.picture(1, h));
            checks.outOfBounds("picture of " + h + " of no entry", () -> x.picture(2, h));
        }
        checks.outOfBounds("picture of entry -1", () -> x.picture(-1, 3));
        checks.outOfBounds("picture of entry 2", () -> x.picture(2, 3));
        checks.due("the picture stays", 4, () -> x.picture(1, 0));
        checks.due("the picture is gone", 0, () -> x.picture(1, 0));
    }

    // ---- promise 8

    private static void orderTakesPad() {
        CatalogueSet x = Checks.withEntries(20, 5, "#0", 3);
        Checks.field(x, 0, 0, "a");
        Checks.field(x, 1, 0, "b");
        Checks.field(x, 2, 0, "c");
        checks.due("order", 2, () -> Checks.order(x, "cb"));
        checks.due("pad behind an order", 0, () -> x.count(0));
        checks.dueIndex(x, 0, 2, 1, 0);
        for (String text : new String[] {"bb", "bcb", " ", "b c", "B", "b`", "b{", "1", "a#"}) {
            Checks.put(x, text);
            checks.badArgument("order " + text, () -> x.order());
            checks.due("pad behind no order", text.length(), () -> x.count(0));
            checks.dueIndex(x, 0, 2, 1, 0);
            // A wrong template is the way to empty the pad.
            Checks.put(x, "A");
            x.template();
        }
        checks.due("a whole order", 26, () -> Checks.order(x, "zyxwvutsrqponmlkjihgfedcba"));
        checks.dueIndex(x, 0, 2, 1, 0);
        checks.due("an empty order", 0, () -> x.order());
        checks.dueIndex(x, 0, 0, 1, 2);
        checks.due("another order", 1, () -> Checks.order(x, "b"));
        checks.dueIndex(x, 0, 1, 0, 2);
    }

    // ---- promise 9

    private static void runRefuses() {
        CatalogueSet x = Checks.withEntries(6, 5, "#0", 4);
        Checks.field(x, 1, 0, "ab");
        checks.due("run", 1, () -> x.run());
        Checks.field(x, 2, 0, "toolong");
        checks.due("run with a long word", -103, () -> x.run());
        x.picture(1, 5);
        checks.due("run with a high first unit ahead of it", -102, () -> x.run());
        x.picture(1, 4);
        checks.due("run with a first unit as high as the page", -103, () -> x.run());
        Checks.field(x, 1, 0, "abc def");
        checks.due("run with a first unit of two lines", -102, () -> x.run());
        x.picture(0, 6);
        checks.due("run with a picture alone that is too high", -101, () -> x.run());
        x.claim(3, 3, 0);
        checks.due("run with a claim without source", -4, () -> x.run());
        x.claim(2, 0, 0);
        checks.due("run with two of them", -3, () -> x.run());
        x.claim(2, 0, -1);
        x.claim(3, 3, 1);
        checks.due("run with none of them", -101, () -> x.run());
        checks.due("what stands is the first run", "ab", Checks.lines(x, 1));
        checks.due("its pages", 1, () -> x.about(0));
        checks.due("its page", -1, () -> x.page(0));
        checks.due("its first line", 1, () -> x.line(1, 0, 0));
        checks.due("its second line", -1, () -> x.line(1, 1, 0));
    }

    /** Pages of two digits are known behind the first pass alone. */
    private static void runRefusesInLaterPass() {
        CatalogueSet x = new CatalogueSet(6, 3);
        Checks.template(x, "");
        Checks.template(x, "#0 #0 #0 #0 #0");
        Checks.template(x, "abcde@2");
        x.entry(2);
        x.entry(1);
        x.entry(0);
        x.picture(2, 3);
        checks.due("run with few pages", 2, () -> x.run());
        Checks.field(x, 1, 0, "abcd abcd abcd abcd abcd abcd");
        checks.due("run with pages of two digits", -101, () -> x.run());
        checks.due("what stands is the first run", "abcde2", Checks.lines(x, 0));
        CatalogueSet y = new CatalogueSet(7, 3);
        Checks.template(y, "");
        Checks.template(y, "#0 #0 #0 #0 #0");
        Checks.template(y, "abcde@2");
        y.entry(2);
        y.entry(1);
        y.entry(0);
        y.picture(2, 3);
        Checks.field(y, 1, 0, "abcd abcd abcd abcd abcd abcd");
        checks.due("run with room for them", 12, () -> y.run());
        checks.due("a number of two digits", "abcde12", Checks.lines(y, 0));
    }

    private static void runPrintsParts() {
        Object[][] rows = {
            {"a#0b[c#1d]e", "", "", "abe"}, {"a#0b[c#1d]e", "x", "", "axbe"}, {"a#0b[c#1d]e", "", "y", "abcyde"},
            {"[#0#1]", "x", "", ""}, {"[#0#1]", "", "y", ""}, {"[#0#1]", "x", "y", "xy"}, {"[ab]c", "", "", "abc"},
            {"[]a[]", "", "", "a"}, {"[@0]@7", "", "", "10"}, {"[@0#0]a", "", "", "a"}, {"[a#0]b", " ", "", "a b"},
            {" a  b ", "", "", "a b"}, {"a#0b", " ", "", "a b"}, {"[#0 ][#1]", "x", "y", "x y"},
            {"#0#0#1#1", "x", " y", "xx y y"}, {"[#1]#0[#0]", "q", "", "qq"}};
        for (Object[] row : rows) {
            CatalogueSet x = Checks.withEntries(40, 5, (String) row[0], 1);
            Checks.field(x, 0, 0, (String) row[1]);
            Checks.field(x, 0, 1, (String) row[2]);
            x.run();
            checks.due("printed " + row[0], row[3], Checks.lines(x, 0));
        }
    }

    private static void runBreaksLines() {
        Object[][] rows = {
            {6, "aaa bb cc ddddd", "aaa/bb cc/ddddd", 10}, {6, "aaa b aaa zzzzzz", "aaa/b aaa/zzzzzz", 10},
            {6, "aa bbb cc", "aa bbb/cc", 0}, {6, "a b c", "a b c", 0}, {6, "a b c d", "a b c/d", 1},
            {6, "", "", 0}, {6, "  ", "", 0}, {6, "aaaaaa bbbbbb", "aaaaaa/bbbbbb", 0},
            {7, "aaa bbb c dd", "aaa bbb/c dd", 0}, {10, "a a a a a a a a", "a a a a a/a a a", 1}};
        for (Object[] row : rows) {
            CatalogueSet x = Checks.withEntries((Integer) row[0], 30, "#0", 1);
            Checks.field(x, 0, 0, (String) row[1]);
            x.run();
            checks.due("lines of " + row[1], row[2], Checks.lines(x, 0));
            checks.due("squares of " + row[1], (Integer) row[3], () -> x.about(3));
        }
    }

    private static void runBreaksPages() {
        // Height, the pictures of entries without lines, their pages, the squares.
        int[][][] rows = {
            {{6}, {3, 2, 2, 5}, {1, 2, 2, 3}, {13}}, {{6}, {3, 1, 3, 6}, {1, 2, 2, 3}, {13}},
            {{6}, {3, 3, 6}, {1, 1, 2}, {0}}, {{6}, {1, 0, 1}, {1, -1, 1}, {0}}, {{4}, {4, 4}, {1, 2}, {0}},
            {{3}, {2, 2}, {1, 2}, {1}}, {{5}, {0, 0}, {-1, -1}, {0}}};
        for (int[][] row : rows) {
            CatalogueSet x = Checks.withEntries(6, row[0][0], "", row[1].length);
            for (int e = 0; e < row[1].length; e++) {
                x.picture(e, row[1][e]);
            }
            x.run();
            for (int e = 0; e < row[2].length; e++) {
                int entry = e;
                checks.due("page of a picture", row[2][e], () -> x.page(entry));
            }
            checks.due("squares of pages", row[3][0], () -> x.about(4));
        }
        // Two first lines stay with the picture, the third may leave it.
        CatalogueSet x = Checks.withEntries(6, 4, "#0", 2);
        Checks.field(x, 0, 0, "aaaaaa bbbbbb cccccc");
        x.picture(0, 2);
        Checks.field(x, 1, 0, "dddddd");
        checks.due("run with a full first page", 2, () -> x.run());
        checks.due("page of the entry behind", 2, () -> x.page(1));
        checks.due("third line on the second page", 2, () -> x.line(2, 0, 1));
        checks.due("the entry behind it", 1, () -> x.line(2, 1, 0));
    }

    private static void runPasses() {
        CatalogueSet x = Checks.withEntries(10, 3, "p@0 @1 @7", 2);
        checks.due("run", 1, () -> x.run());
        checks.due("pages are put in", "p1 1 0", Checks.lines(x, 0));
        checks.due("passes", 2, () -> x.about(1));
        checks.due("settled", 1, () -> x.about(2));
        CatalogueSet y = Checks.withEntries(10, 3, "@0", 0);
        checks.due("run of nothing", 0, () -> y.run());
        checks.due("passes of nothing", 1, () -> y.about(1));
        checks.due("settled nothing", 1, () -> y.about(2));
        y.entry(Checks.template(y, " "));
        checks.due("run of an entry without units", 0, () -> y.run());
        checks.due("passes of an entry without units", 1, () -> y.about(1));
    }

    /**
     * Ahead of entry 4 there are 44 lines. With the number 9 in it, it has one line under its
     * picture, and entry 3 comes with it on page 10 (2 pages of 4 lines ahead of them); with
     * the number 10 it has two and fills page 10 alone, and entry 3 comes on page 9.
     */
    private static void runDoesNotSettle() {
        CatalogueSet x = new CatalogueSet(6, 5);
        Checks.template(x, "#0 #0 #0 #0 #0 #0");
        Checks.template(x, "");
        Checks.template(x, "aaa a@3");
        Checks.field(x, x.entry(0), 0, "aaaaaa bbbbbb cccccc");
        Checks.field(x, x.entry(0), 0, "aaaaaa bbbbbb cccccc dddddd");
        int[][] behind = {{1, 1}, {1, 1}, {2, 3}, {1, 3}};
        for (int[] row : behind) {
            x.picture(x.entry(row[0]), row[1]);
        }
        checks.due("run", 11, () -> x.run());
        checks.dueAbout(x, 11, 5, 0, 0, 2);
        checks.due("page in the fifth pass", 10, () -> x.page(3));
        checks.due("page told to the fifth pass", "aaa a9", Checks.lines(x, 4));
        // With a lower picture two lines of it leave room for entry 3, too.
        x.picture(4, 2);
        checks.due("run that settles", 11, () -> x.run());
        checks.dueAbout(x, 11, 3, 1, 9, 2);
        checks.due("page that was told", "aaa/a10", Checks.lines(x, 4));
        checks.due("page of the entry ahead", 9, () -> x.page(2));
    }

    /** Six fields of 32 signs and 20 other signs: the most signs, then the most words. */
    private static void runPrintsTheLongest() {
        String[][] rows = {{"abcdefghijklmnopqrst", "aaaaaaa bbbbbbb ccccccc ddddddd "},
            {"a b c d e f g h i j ", "a b c d e f g h i j k l m n o p "}};
        for (String[] row : rows) {
            for (int width : new int[] {20, 21, 40}) {
                CatalogueSet x = Checks.withEntries(width, 30, "#0#0#0#0#0#0" + row[0], 8);
                for (int e = 0; e < 8; e++) {
                    Checks.field(x, e, 0, row[1]);
                }
                x.run();
                String want = row[1].repeat(6) + row[0].trim();
                checks.due("the longest text", want, Checks.lines(x, 0).replace('/', ' '));
                checks.due("the last entry's", want, Checks.lines(x, 7).replace('/', ' '));
            }
        }
    }

    private static void runPrintsThreeDigits() {
        CatalogueSet x = new CatalogueSet(6, 3);
        Checks.template(x, "#0 #0 #0 #0 #0 #0");
        Checks.template(x, "#0 #1");
        Checks.template(x, "@7");
        for (int e = 0; e < 8; e++) {
            x.entry(e < 6 ? 0 : e - 5);
            Checks.field(x, e, 0, e < 6 ? "abc abc abc abc abc abc abc abc" : "");
        }
        boolean[] seen = new boolean[1000];
        for (int n = 0; n <= 16; n++) {
            Checks.field(x, 6, 0, "abc ".repeat(Math.min(n, 8)));
            Checks.field(x, 6, 1, "abc ".repeat(Math.max(n - 8, 0)));
            x.run();
            seen[x.page(7)] = true;
            checks.due("a page as a number", String.valueOf(x.page(7)), Checks.lines(x, 7));
        }
        for (int page = 99; page <= 101; page++) {
            checks.due("whether page " + page + " came", true, seen[page]);
        }
    }

    /** As many lines as can be that have one sign of 40, each ahead of a word that has 39. */
    private static void runSumsTheGreatestSquares() {
        String text = ("a " + "b".repeat(39) + " ").repeat(6).substring(0, 212);
        CatalogueSet x = Checks.withEntries(40, 30, "#0" + text.substring(32, 42) + "#0#1" + text.substring(106, 116)
            + "#1#2#3", 8);
        int[] starts = {0, 74, 148, 180};
        for (int e = 0; e < 8; e++) {
            for (int f = 0; f < 4; f++) {
                Checks.field(x, e, f, text.substring(starts[f], starts[f] + 32));
            }
        }
        checks.due("run", 3, () -> x.run());
        checks.due("lines", text.trim().replace(' ', '/'), Checks.lines(x, 7));
        checks.due("squares of lines", 8 * 5 * (39 * 39 + 1), () -> x.about(3));
    }

    // ---- promise 10

    private static void aboutTells() {
        CatalogueSet x = Checks.withEntries(6, 3, "#0", 2);
        checks.badState("about ahead of a run", () -> x.about(4));
        checks.outOfBounds("about(5) ahead of a run", () -> x.about(5));
        checks.outOfBounds("about(-1) ahead of a run", () -> x.about(-1));
        x.claim(0, 0, 0);
        x.run();
        checks.badState("about behind a refused run", () -> x.about(0));
        x.claim(0, 0, -1);
        Checks.field(x, 0, 0, "aaa bb cc ddddd");
        Checks.field(x, 1, 0, "aaa b aaa zzzzzz");
        x.run();
        checks.dueAbout(x, 2, 2, 1, 20, 0);
        x.picture(1, 1);
        x.run();
        checks.dueAbout(x, 3, 2, 1, 20, 0);
        x.picture(0, 1);
        x.run();
        checks.dueAbout(x, 4, 2, 1, 20, 4);
        x.picture(0, 2);
        x.run();
        checks.dueAbout(x, 4, 2, 1, 20, 4);
        checks.outOfBounds("about(5)", () -> x.about(5));
        checks.outOfBounds("about(-1)", () -> x.about(-1));
    }

    // ---- promise 11

    private static void pageTells() {
        CatalogueSet x = Checks.withEntries(6, 3, "#0", 2);
        checks.badState("page ahead of a run", () -> x.page(1));
        checks.outOfBounds("page of no entry ahead of a run", () -> x.page(2));
        x.picture(1, 3);
        x.run();
        checks.due("page of an entry without units", -1, () -> x.page(0));
        checks.due("page of an entry", 1, () -> x.page(1));
        x.entry(0);
        checks.outOfBounds("page of an entry that was not there", () -> x.page(2));
        checks.outOfBounds("page of no entry", () -> x.page(3));
        checks.outOfBounds("page of no entry", () -> x.page(-1));
        x.picture(0, 3);
        checks.due("page as it was in the run", -1, () -> x.page(0));
        x.run();
        checks.due("page in the next run", 1, () -> x.page(0));
        checks.due("page in the next run", 2, () -> x.page(1));
        checks.due("page of the new entry", -1, () -> x.page(2));
    }

    // ---- promise 12

    private static void lineTells() {
        CatalogueSet x = Checks.withEntries(6, 4, "#0", 2);
        checks.badState("line ahead of a run", () -> x.line(1, 3, 1));
        checks.outOfBounds("no line ahead of a run", () -> x.line(1, 4, 1));
        checks.outOfBounds("no answer ahead of a run", () -> x.line(1, 0, 2));
        checks.outOfBounds("no page ahead of a run", () -> x.line(0, 0, 0));
        Checks.field(x, 0, 0, "aaaaaa bbbbbb");
        x.picture(0, 1);
        Checks.field(x, 1, 0, "cccccc dddddd eeeeee");
        checks.due("run", 2, () -> x.run());
        int[][] want = {{1, 0, 0, -1}, {1, 1, 0, 0}, {1, 2, 0, 1}, {1, 3, -1, -1},
            {2, 0, 1, 0}, {2, 1, 1, 1}, {2, 2, 1, 2}, {2, 3, -1, -1}};
        for (int[] row : want) {
            checks.due("entry in a line", row[2], () -> x.line(row[0], row[1], 0));
            checks.due("which line it is", row[3], () -> x.line(row[0], row[1], 1));
        }
        int[][] nowhere = {{0, 0, 0}, {3, 0, 0}, {-1, 0, 0}, {1, -1, 0}, {1, 4, 0}, {1, 0, -1}, {1, 0, 2},
            {HIGH, HIGH, HIGH}, {LOW, LOW, LOW}, {HIGH, 0, 0}, {1, HIGH, 0}};
        for (int[] row : nowhere) {
            checks.outOfBounds("line nowhere", () -> x.line(row[0], row[1], row[2]));
        }
        x.picture(0, 0);
        checks.due("line as it was in the run", -1, () -> x.line(1, 0, 1));
        x.run();
        checks.due("line in the next run", 0, () -> x.line(1, 0, 1));
    }

    // ---- promise 13

    private static void signTells() {
        CatalogueSet x = Checks.withEntries(6, 4, "#0", 2);
        checks.badState("sign ahead of a run", () -> x.sign(0, 0, 0));
        checks.badState("sign ahead of a run", () -> x.sign(1, -1, -1));
        checks.outOfBounds("sign of no entry ahead of a run", () -> x.sign(2, 0, 0));
        checks.outOfBounds("sign of no line ahead of a run", () -> x.sign(0, -1, 0));
        checks.outOfBounds("sign of no line ahead of a run", () -> x.sign(0, -2, -1));
        checks.outOfBounds("sign of no place ahead of a run", () -> x.sign(0, 0, -2));
        Checks.field(x, 0, 0, "  ab   c defgh");
        x.run();
        checks.due("how many lines", 2, () -> x.sign(0, -1, -1));
        checks.due("how many signs", 4, () -> x.sign(0, 0, -1));
        checks.due("how many signs", 5, () -> x.sign(0, 1, -1));
        checks.due("a sign", 'b', () -> x.sign(0, 0, 1));
        checks.due("a sign", ' ', () -> x.sign(0, 0, 2));
        checks.due("a sign", 'c', () -> x.sign(0, 0, 3));
        checks.due("a sign", 'h', () -> x.sign(0, 1, 4));
        checks.due("no lines", 0, () -> x.sign(1, -1, -1));
        int[][] nowhere = {{0, 0, 4}, {0, 1, 5}, {0, 2, 0}, {0, 2, -1}, {0, -1, 0}, {0, -2, -1}, {0, 0, -2},
            {1, 0, -1}, {1, 0, 0}, {2, -1, -1}, {-1, -1, -1}, {0, HIGH, -1}, {0, 0, HIGH}, {LOW, LOW, LOW}};
        for (int[] row : nowhere) {
            checks.outOfBounds("sign nowhere", () -> x.sign(row[0], row[1], row[2]));
        }
        Checks.field(x, 0, 0, "x");
        x.entry(0);
        checks.due("a sign as it was in the run", 'a', () -> x.sign(0, 0, 0));
        checks.outOfBounds("an entry that was not there", () -> x.sign(2, -1, -1));
        x.run();
        checks.due("a sign in the next run", 'x', () -> x.sign(0, 0, 0));
        checks.due("lines in the next run", 1, () -> x.sign(0, -1, -1));
        checks.due("the new entry's lines", 0, () -> x.sign(2, -1, -1));
    }

    // ---- promise 14

    private static void indexSorts() {
        CatalogueSet x = Checks.withEntries(6, 3, "#0", 7);
        checks.dueIndex(x, 0);
        String[] texts = {"b", "ab", "a", "a b", "", "ab", " z"};
        for (int e = 0; e < texts.length; e++) {
            Checks.field(x, e, 2, texts[e]);
        }
        checks.dueIndex(x, 2, 6, 2, 3, 1, 5, 0);
        checks.dueIndex(x, 0);
        checks.dueIndex(x, 3);
        Checks.order(x, "zb");
        checks.dueIndex(x, 2, 6, 0, 2, 3, 1, 5);
        Checks.field(x, 4, 2, "z");
        checks.dueIndex(x, 2, 6, 4, 0, 2, 3, 1, 5);
        x.field(6, 2);
        checks.dueIndex(x, 2, 4, 0, 2, 3, 1, 5);
        checks.due("index far behind the last", -1, () -> x.index(2, HIGH));
        int[][] nowhere = {{-1, 0}, {4, 0}, {0, -1}, {LOW, 0}, {HIGH, 0}, {2, LOW}};
        for (int[] at : nowhere) {
            checks.outOfBounds("index nowhere", () -> x.index(at[0], at[1]));
        }
    }

    // ---- promise 15

    private static void countTells() {
        CatalogueSet x = Checks.withEntries(6, 3, "#0", 2);
        Checks.template(x, "a");
        Checks.put(x, "abcd");
        checks.due("signs", 4, () -> x.count(0));
        checks.due("templates", 2, () -> x.count(1));
        checks.due("entries", 2, () -> x.count(2));
        for (int what : new int[] {-1, 3, LOW, HIGH}) {
            checks.outOfBounds("count(" + what + ")", () -> x.count(what));
        }
    }
}
