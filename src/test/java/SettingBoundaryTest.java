/** The boundary cases that promises 9 to 15 name, each sentence on its own. */
public final class SettingBoundaryTest {
    private static final int LOW = Integer.MIN_VALUE;
    private static final int HIGH = Integer.MAX_VALUE;

    private static Checks checks;

    public static void main(String[] args) {
        checks = new Checks("SettingBoundaryTest");
        checks.each(
            SettingBoundaryTest::runPages, SettingBoundaryTest::runUnsourced, SettingBoundaryTest::runLongWord,
            SettingBoundaryTest::runHighUnit, SettingBoundaryTest::runFirstSuchOne, SettingBoundaryTest::aboutLatest,
            SettingBoundaryTest::aboutFigures, SettingBoundaryTest::aboutNoneOfThese, SettingBoundaryTest::aboutNoRun,
            SettingBoundaryTest::pageOfFirstUnit, SettingBoundaryTest::pageNoEntry, SettingBoundaryTest::pageNoRun,
            SettingBoundaryTest::lineOfPage, SettingBoundaryTest::lineNowhere, SettingBoundaryTest::lineNoRun,
            SettingBoundaryTest::signOfLine, SettingBoundaryTest::signNowhere, SettingBoundaryTest::signNoRun,
            SettingBoundaryTest::indexPlaces, SettingBoundaryTest::indexNowhere, SettingBoundaryTest::countFigures,
            SettingBoundaryTest::countNoneOfThese);
        checks.end();
    }

    // ---- promise 9

    private static void runPages() {
        checks.sentence("Promise 9", "Sets all: how many pages");
        checks.due("run without entries", 0, () -> new CatalogueSet(6, 3).run());
        CatalogueSet none = Checks.withTexts(6, 3, "", " ");
        checks.due("run without units", 0, () -> none.run());
        CatalogueSet one = Checks.withTexts(6, 3, "", "a");
        checks.due("run of one line", 1, () -> one.run());
        CatalogueSet full = Checks.withTexts(6, 3, "a", "b", "c");
        checks.due("run of a full page", 1, () -> full.run());
        CatalogueSet more = Checks.withTexts(6, 3, "a", "b", "c", "d");
        checks.due("run of a line more", 2, () -> more.run());
        // Eight entries of 6 * 8 lines, which fill 16 pages each.
        CatalogueSet many = withLongTexts("#0#0#0#0#0#0");
        checks.due("run of many lines", 128, () -> many.run());
        checks.duePages(many, 1, 17, 33, 49, 65, 81, 97, 113);
    }

    /** Eight entries, with field 0 of 32 signs and eight words no two of which share a line. */
    private static CatalogueSet withLongTexts(String template) {
        CatalogueSet x = Checks.withEntries(6, 3, template, 8);
        for (int e = 0; e < 8; e++) {
            Checks.field(x, e, 0, "abc ".repeat(8));
        }
        return x;
    }

    private static void runUnsourced() {
        checks.sentence("Promise 9", "or, nothing changing, -1 minus the first entry with a claim without source");
        CatalogueSet x = Checks.withTexts(6, 3, "a", "b", "c", "d", "e", "f", "g", "h");
        checks.due("run without claims", 3, () -> x.run());
        for (int e = 7; e >= 0; e--) {
            int entry = e;
            x.claim(e, e % 4, 0);
            checks.due("run with claims from " + e + " on", -1 - entry, () -> x.run());
        }
        for (int e = 0; e < 8; e++) {
            int entry = e;
            checks.due("run with the first at " + e, -1 - entry, () -> x.run());
            x.claim(e, e % 4, e % 2 == 0 ? 1 : -1);
        }
        checks.due("run with sources", 3, () -> x.run());
        for (int c = 0; c < 4; c++) {
            x.claim(5, c, 0);
            checks.due("run with claim " + c, -6, () -> x.run());
            x.claim(5, c, 1);
            checks.due("run with its source", 3, () -> x.run());
        }
        // The claim bars the run ahead of all else, and what stood stays.
        Checks.field(x, 0, 0, "toolong");
        x.claim(7, 0, 0);
        checks.due("run with a long word ahead of a claim", -8, () -> x.run());
        checks.due("what was set", "a", Checks.lines(x, 0));
        checks.dueAbout(x, 3, 2, 1, 0, 0);
    }

    private static void dueRun(int width, int height, String text, int picture, int want) {
        CatalogueSet x = Checks.withEntries(width, height, "#0#1", 1);
        Checks.field(x, 0, 0, text.substring(0, Math.min(32, text.length())));
        Checks.field(x, 0, 1, text.substring(Math.min(32, text.length())));
        x.picture(0, picture);
        checks.due("run of " + text + " with picture " + picture, want, () -> x.run());
    }

    private static void runLongWord() {
        checks.sentence("Promise 9", "else, if in some pass an entry has a word longer than the width");
        for (int width : new int[] {6, 7, 39, 40}) {
            dueRun(width, 3, "a".repeat(width), 0, 1);
            dueRun(width, 3, "a".repeat(width + 1), 0, -101);
            dueRun(width, 3, "b " + "a".repeat(width), 0, 1);
            dueRun(width, 3, "b " + "a".repeat(width + 1), 0, -101);
            dueRun(width, 3, "a".repeat(width + 1) + " b", 0, -101);
        }
        // Page 10 has a digit more than the 0 of the first pass.
        CatalogueSet x = withPictureBehind("abcde@2", 9);
        checks.due("run with page 9", 9, () -> x.run());
        checks.due("its word", "abcde9", Checks.lines(x, 0));
        CatalogueSet y = withPictureBehind("abcde@2", 10);
        checks.due("run with page 10", -101, () -> y.run());
        CatalogueSet z = withPictureBehind("abcd@2", 10);
        checks.due("run with room for page 10", 10, () -> z.run());
        checks.due("its word", "abcd10", Checks.lines(z, 0));
    }

    /** Entry 0 by the template, lines in entry 1, and in entry 2 a picture of the whole page. */
    private static CatalogueSet withPictureBehind(String template, int page) {
        CatalogueSet x = new CatalogueSet(6, 3);
        Checks.template(x, template);
        Checks.template(x, "#0 #0 #0 #1");
        Checks.template(x, "");
        for (int t = 0; t < 3; t++) {
            x.entry(t);
        }
        // 21 lines fill eight pages with the one to three of entry 0, three more do nine.
        Checks.field(x, 1, 0, "abc abc abc abc abc abc abc");
        Checks.field(x, 1, 1, page == 10 ? "abc abc abc" : "");
        x.picture(2, 3);
        return x;
    }

    private static void runHighUnit() {
        checks.sentence("Promise 9", "or a first unit higher than a page");
        for (int height : new int[] {3, 4, 29, 30}) {
            dueRun(6, height, "", height, 1);
            dueRun(6, height, "a", height - 1, 1);
            dueRun(6, height, "a", height, -101);
            dueRun(6, height, "aaaaaa bbbbbb", height - 2, 1);
            dueRun(6, height, "aaaaaa bbbbbb", height - 1, -101);
            dueRun(6, height, "aaaaaa bbbbbb cccccc", height - 2, 2);
            dueRun(6, height, "aaaaaa bbbbbb cccccc", height - 1, -101);
            if (height < 30) {
                dueRun(6, height, "", height + 1, -101);
            }
        }
        // With page 10 in it the line becomes two, and its unit too high.
        CatalogueSet x = withPictureBehind("abcd @2", 9);
        x.picture(0, 2);
        checks.due("run with page 9 and an only line", 9, () -> x.run());
        CatalogueSet y = withPictureBehind("abcd @2", 10);
        y.picture(0, 2);
        checks.due("run with a second line in a later pass", -101, () -> y.run());
        y.picture(0, 1);
        checks.due("run with room for it", 10, () -> y.run());
        checks.due("its lines", "abcd/10", Checks.lines(y, 0));
    }

    private static void runFirstSuchOne() {
        checks.sentence("Promise 9", "-101 minus the first such one.");
        CatalogueSet x = Checks.withTexts(6, 3, "a", "b", "c", "d", "e", "f", "g", "h");
        checks.due("run", 3, () -> x.run());
        for (int e = 7; e >= 0; e--) {
            int entry = e;
            if (e % 2 == 0) {
                x.picture(e, 3);
            } else {
                Checks.field(x, e, 0, "toolong");
            }
            checks.due("run with wrong ones from " + e + " on", -101 - entry, () -> x.run());
        }
        for (int e = 0; e < 8; e++) {
            int entry = e;
            checks.due("run with the first at " + e, -101 - entry, () -> x.run());
            x.picture(e, 0);
            x.field(e, 0);
        }
        checks.due("run with none", 0, () -> x.run());
    }

    // ---- promise 10

    private static void aboutLatest() {
        checks.sentence("Promise 10", "Of the latest run() that was not refused");
        CatalogueSet x = Checks.withTexts(6, 3, "aaaa bbbb", "c");
        x.run();
        checks.dueAbout(x, 1, 2, 1, 4, 0);
        x.picture(1, 2);
        checks.dueAbout(x, 1, 2, 1, 4, 0);
        x.claim(0, 0, 0);
        x.run();
        checks.dueAbout(x, 1, 2, 1, 4, 0);
        x.claim(0, 0, 1);
        Checks.field(x, 0, 0, "toolong");
        x.run();
        checks.dueAbout(x, 1, 2, 1, 4, 0);
        Checks.field(x, 0, 0, "aaaaa bbbb");
        x.run();
        checks.dueAbout(x, 2, 2, 1, 1, 1);
    }

    private static void aboutFigures() {
        checks.sentence("Promise 10", "0 pages, 1 passes, 2 whether its last pass had the pages that it told (1) or "
            + "not (0), 3 the sum of squares of its lines, 4 that of its pages.");
        CatalogueSet none = new CatalogueSet(6, 3);
        none.run();
        checks.dueAbout(none, 0, 1, 1, 0, 0);
        // The most that can be left: 39 signs of a line, and 29 lines of a page.
        CatalogueSet most = new CatalogueSet(40, 30);
        Checks.template(most, "#0 #1#2");
        for (int e = 0; e < 8; e++) {
            most.entry(0);
            Checks.field(most, e, 0, "a");
            Checks.field(most, e, 1, "b".repeat(32));
            Checks.field(most, e, 2, "b".repeat(7));
        }
        most.run();
        checks.dueAbout(most, 1, 2, 1, 8 * 39 * 39, 0);
        CatalogueSet pages = Checks.withPictures(30, 1, 30, 1, 30, 1, 30, 1, 30);
        pages.run();
        checks.dueAbout(pages, 8, 2, 1, 0, 4 * 29 * 29);
    }

    private static void aboutNoneOfThese() {
        checks.sentence("Promise 10", "IndexOutOfBoundsException: none of these.");
        CatalogueSet x = new CatalogueSet(6, 3);
        int[] wrong = {LOW, -1, 5, 6, 256, HIGH};
        for (int what : wrong) {
            checks.outOfBounds("about(" + what + ") ahead of a run", () -> x.about(what));
        }
        x.run();
        for (int what : wrong) {
            checks.outOfBounds("about(" + what + ")", () -> x.about(what));
        }
        checks.due("about(4)", 0, () -> x.about(4));
    }

    private static void aboutNoRun() {
        checks.sentence("Promise 10", "IllegalStateException: there was none.");
        CatalogueSet x = Checks.withTexts(6, 3, "toolong");
        dueNoAbout(x);
        x.run();
        dueNoAbout(x);
        Checks.field(x, 0, 0, "a");
        x.claim(0, 0, 0);
        x.run();
        dueNoAbout(x);
        x.claim(0, 0, 1);
        x.run();
        checks.dueAbout(x, 1, 2, 1, 0, 0);
    }

    private static void dueNoAbout(CatalogueSet x) {
        for (int what = 0; what <= 4; what++) {
            int w = what;
            checks.badState("about(" + what + ") of no run", () -> x.about(w));
        }
    }

    // ---- promise 11

    private static void pageOfFirstUnit() {
        checks.sentence("Promise 11", "In it: the page of an entry's first unit; NONE.");
        CatalogueSet x = Checks.withTexts(6, 3, "", "aaaaaa bbbbbb cccccc dddddd", "e", "", " ", "f", "g", "h");
        x.picture(3, 3);
        checks.due("run", 4, () -> x.run());
        // Entry 1 goes on to page 2, where entry 2 begins; entries 0 and 4 have no units.
        checks.duePages(x, -1, 1, 2, 3, -1, 4, 4, 4);
        x.picture(3, 0);
        checks.duePages(x, -1, 1, 2, 3, -1, 4, 4, 4);
        x.run();
        checks.duePages(x, -1, 1, 2, -1, -1, 2, 3, 3);
    }

    private static void pageNoEntry() {
        checks.sentence("Promise 11", "IndexOutOfBoundsException: entry, or it was not there then.");
        CatalogueSet x = Checks.withTexts(6, 3, "a");
        int[] wrong = {LOW, -1, 2, 8, 256, HIGH};
        for (int entry : wrong) {
            checks.outOfBounds("page(" + entry + ") ahead of a run", () -> x.page(entry));
        }
        checks.outOfBounds("page(1) ahead of a run", () -> x.page(1));
        x.run();
        checks.due("page of the last entry", 1, () -> x.page(0));
        checks.outOfBounds("page of an entry that is not there", () -> x.page(1));
        x.entry(0);
        x.picture(1, 1);
        checks.outOfBounds("page of an entry that was not there", () -> x.page(1));
        x.claim(1, 0, 0);
        x.run();
        checks.outOfBounds("page of it behind a refused run", () -> x.page(1));
        for (int entry : wrong) {
            checks.outOfBounds("page(" + entry + ")", () -> x.page(entry));
        }
        x.claim(1, 0, 1);
        x.run();
        checks.due("page of it behind a run", 1, () -> x.page(1));
    }

    private static void pageNoRun() {
        checks.sentence("Promise 11", "IllegalStateException likewise.");
        CatalogueSet x = Checks.withTexts(6, 3, "toolong", "a");
        checks.badState("page ahead of a run", () -> x.page(0));
        x.run();
        checks.badState("page behind a refused run", () -> x.page(0));
        checks.badState("page behind a refused run", () -> x.page(1));
        Checks.field(x, 0, 0, "b");
        x.run();
        checks.duePages(x, 1, 1);
    }

    // ---- promise 12

    private static CatalogueSet withTwoPages() {
        CatalogueSet x = Checks.withTexts(6, 3, "", "aaaaaa bbbbbb", "", "cccccc");
        x.picture(1, 1);
        return x;
    }

    private static void lineOfPage() {
        checks.sentence("Promise 12", "In it: of a page's k-th line from above: 0 its entry, 1 which of its lines it "
            + "is (NONE: of its picture); NONE for an empty one.");
        CatalogueSet x = withTwoPages();
        x.run();
        dueTwoPages(x);
        // Neither what is told behind the run nor a refused run changes what it set.
        x.picture(3, 3);
        Checks.field(x, 1, 0, "toolong");
        dueTwoPages(x);
        checks.due("run", -102, () -> x.run());
        dueTwoPages(x);
        CatalogueSet y = Checks.withPictures(30, 30, 29);
        y.run();
        checks.due("the first row of a picture", 0, () -> y.line(1, 0, 0));
        checks.due("the last row of a picture", 0, () -> y.line(1, 29, 0));
        checks.due("which line it is", -1, () -> y.line(1, 29, 1));
        checks.due("the last row of the next", 1, () -> y.line(2, 28, 0));
        checks.due("an empty row behind it", -1, () -> y.line(2, 29, 0));
    }

    private static void dueTwoPages(CatalogueSet x) {
        int[][] want = {{1, 0, 1, -1}, {1, 1, 1, 0}, {1, 2, 1, 1}, {2, 0, 3, 0}, {2, 1, -1, -1}, {2, 2, -1, -1}};
        for (int[] row : want) {
            checks.due("entry of row " + row[1] + " on page " + row[0], row[2], () -> x.line(row[0], row[1], 0));
            checks.due("line of row " + row[1] + " on page " + row[0], row[3], () -> x.line(row[0], row[1], 1));
        }
    }

    private static void lineNowhere() {
        checks.sentence("Promise 12", "IndexOutOfBoundsException: page, line, or what is neither.");
        CatalogueSet none = new CatalogueSet(6, 3);
        none.run();
        checks.outOfBounds("line of no pages", () -> none.line(1, 0, 0));
        CatalogueSet x = withTwoPages();
        x.run();
        checks.due("the last row", -1, () -> x.line(2, 2, 1));
        for (int page : new int[] {LOW, -1, 0, 3, 4, 256, HIGH}) {
            checks.outOfBounds("line of page " + page, () -> x.line(page, 0, 0));
        }
        for (int k : new int[] {LOW, -1, 3, 4, 256, HIGH}) {
            checks.outOfBounds("line " + k, () -> x.line(1, k, 0));
            checks.outOfBounds("line " + k, () -> x.line(2, k, 1));
        }
        for (int what : new int[] {LOW, -1, 2, 256, HIGH}) {
            checks.outOfBounds("what " + what, () -> x.line(1, 0, what));
            checks.outOfBounds("what " + what + " of an empty line", () -> x.line(2, 2, what));
        }
        x.picture(1, 0);
        x.run();
        checks.outOfBounds("a page that is gone", () -> x.line(2, 0, 0));
    }

    private static void lineNoRun() {
        checks.sentence("Promise 12", "IllegalStateException likewise.");
        CatalogueSet x = withTwoPages();
        checks.badState("line ahead of a run", () -> x.line(1, 0, 0));
        checks.badState("line ahead of a run", () -> x.line(1, 2, 1));
        x.claim(3, 3, 0);
        x.run();
        checks.badState("line behind a refused run", () -> x.line(1, 0, 0));
        x.claim(3, 3, -1);
        x.run();
        checks.due("line behind a run", 1, () -> x.line(1, 0, 0));
    }

    // ---- promise 13

    private static CatalogueSet withThreeTexts() {
        return Checks.withTexts(6, 3, "", "aaaaa b c", "ab cde fghijk");
    }

    private static void signOfLine() {
        checks.sentence("Promise 13", "In it: sign i of an entry's line l; i = -1: how many it has; l = -1, i = -1: "
            + "how many lines.");
        CatalogueSet x = withThreeTexts();
        x.run();
        dueThreeTexts(x);
        // Neither what is told behind the run nor a refused run changes what it set.
        Checks.field(x, 0, 0, "new");
        x.field(1, 0);
        x.claim(2, 0, 0);
        dueThreeTexts(x);
        checks.due("run", -3, () -> x.run());
        dueThreeTexts(x);
        CatalogueSet y = Checks.withEntries(40, 3, "#0#1", 1);
        Checks.field(y, 0, 0, "a".repeat(32));
        Checks.field(y, 0, 1, "b".repeat(7) + "z");
        y.run();
        checks.due("signs of the longest line", 40, () -> y.sign(0, 0, -1));
        checks.due("its last sign", 'z', () -> y.sign(0, 0, 39));
        CatalogueSet most = withLongTexts("#0#0#0#0#0#0abc abc abc abc xyz ");
        most.run();
        checks.due("the most lines", 53, () -> most.sign(7, -1, -1));
        checks.due("signs of the last line", 3, () -> most.sign(7, 52, -1));
        checks.due("the last sign of the last line", 'z', () -> most.sign(7, 52, 2));
    }

    private static void dueThreeTexts(CatalogueSet x) {
        checks.due("lines of an empty entry", 0, () -> x.sign(0, -1, -1));
        checks.due("lines", 2, () -> x.sign(1, -1, -1));
        checks.due("signs of the first line", 5, () -> x.sign(1, 0, -1));
        checks.due("signs of the last line", 3, () -> x.sign(1, 1, -1));
        String[] lines = {"ab cde", "fghijk"};
        for (int l = 0; l < 2; l++) {
            for (int i = 0; i < 6; i++) {
                int line = l;
                int place = i;
                checks.due("sign " + i + " of line " + l, lines[l].charAt(i), () -> x.sign(2, line, place));
            }
        }
    }

    private static void signNowhere() {
        checks.sentence("Promise 13", "IndexOutOfBoundsException: entry, line, place");
        CatalogueSet x = withThreeTexts();
        checks.outOfBounds("lines of no entry ahead of a run", () -> x.sign(3, -1, -1));
        checks.outOfBounds("a sign of no entry ahead of a run", () -> x.sign(-1, 0, 0));
        x.run();
        for (int entry : new int[] {LOW, -1, 3, 8, 256, HIGH}) {
            checks.outOfBounds("lines of entry " + entry, () -> x.sign(entry, -1, -1));
            checks.outOfBounds("sign of entry " + entry, () -> x.sign(entry, 0, 0));
        }
        for (int l : new int[] {LOW, -2, 2, 3, 256, HIGH}) {
            checks.outOfBounds("signs of line " + l, () -> x.sign(2, l, -1));
            checks.outOfBounds("sign of line " + l, () -> x.sign(2, l, 0));
        }
        for (int i : new int[] {LOW, -2, 5, 6, 256, HIGH}) {
            checks.outOfBounds("sign " + i, () -> x.sign(1, 0, i));
            checks.outOfBounds("sign " + i + " of no line", () -> x.sign(1, -1, i));
        }
        checks.outOfBounds("sign 0 of no line", () -> x.sign(1, -1, 0));
        checks.outOfBounds("sign behind the last line's", () -> x.sign(1, 1, 3));
        checks.outOfBounds("signs of an empty entry's line", () -> x.sign(0, 0, -1));
        checks.outOfBounds("a sign of an empty entry", () -> x.sign(0, 0, 0));
        x.entry(0);
        checks.outOfBounds("lines of an entry that was not there", () -> x.sign(3, -1, -1));
        x.run();
        checks.due("lines of it behind a run", 0, () -> x.sign(3, -1, -1));
    }

    private static void signNoRun() {
        checks.sentence("Promise 13", "IllegalStateException likewise.");
        CatalogueSet x = withThreeTexts();
        dueNoSign(x);
        x.picture(2, 2);
        x.run();
        dueNoSign(x);
        x.picture(2, 1);
        x.run();
        checks.due("sign behind a run", 'a', () -> x.sign(1, 0, 0));
    }

    private static void dueNoSign(CatalogueSet x) {
        checks.badState("lines of no run", () -> x.sign(1, -1, -1));
        checks.badState("signs of no run", () -> x.sign(1, 0, -1));
        checks.badState("a sign of no run", () -> x.sign(1, 0, 0));
    }

    // ---- promise 14

    private static void indexPlaces() {
        checks.sentence("Promise 14", "The k-th entry in the index of a field, as fields and order are now; NONE.");
        CatalogueSet x = Checks.withEntries(6, 3, "", 8);
        for (int f = 0; f < 4; f += 3) {
            for (int e = 0; e < 8; e++) {
                Checks.field(x, e, f, "" + (char) ('h' - e));
            }
            checks.dueIndex(x, f, 7, 6, 5, 4, 3, 2, 1, 0);
        }
        int field = 3;
        for (int k : new int[] {8, 9, 256, HIGH}) {
            checks.due("index behind the last", -1, () -> x.index(field, k));
            checks.due("index of empty fields", -1, () -> x.index(1, k));
        }
        checks.due("the first of empty fields", -1, () -> x.index(2, 0));
        Checks.order(x, "hgfe");
        checks.dueIndex(x, 3, 0, 1, 2, 3, 7, 6, 5, 4);
        x.field(0, 3);
        checks.dueIndex(x, 3, 1, 2, 3, 7, 6, 5, 4);
        checks.dueIndex(x, 0, 0, 1, 2, 3, 7, 6, 5, 4);
        x.order();
        Checks.field(x, 4, 3, "z");
        checks.dueIndex(x, 3, 7, 6, 5, 3, 2, 1, 4);
    }

    private static void indexNowhere() {
        checks.sentence("Promise 14", "IndexOutOfBoundsException: field, or k is below 0.");
        CatalogueSet none = new CatalogueSet(6, 3);
        CatalogueSet x = Checks.withTexts(6, 3, "a");
        for (int f : new int[] {LOW, -1, 4, 5, 256, HIGH}) {
            checks.outOfBounds("index of field " + f, () -> x.index(f, 0));
            checks.outOfBounds("index of field " + f + " without entries", () -> none.index(f, HIGH));
        }
        for (int k : new int[] {LOW, -2, -1}) {
            checks.outOfBounds("index " + k, () -> x.index(0, k));
            checks.outOfBounds("index " + k + " without entries", () -> none.index(3, k));
        }
        checks.due("index 0", 0, () -> x.index(0, 0));
        checks.due("index 0 without entries", -1, () -> none.index(3, 0));
    }

    // ---- promise 15

    private static void countFigures() {
        checks.sentence("Promise 15", "0 signs of the pad, 1 templates, 2 entries.");
        CatalogueSet x = new CatalogueSet(6, 3);
        dueCounts(x, 0, 0, 0);
        for (int t = 1; t <= 6; t++) {
            x.template();
            dueCounts(x, 0, t, 0);
        }
        for (int e = 1; e <= 8; e++) {
            x.entry(0);
            dueCounts(x, 0, 6, e);
        }
        for (int n = 1; n <= 32; n++) {
            x.unit(0, '~');
            dueCounts(x, n, 6, 8);
        }
        Checks.told(() -> x.unit('a', 0));
        Checks.told(() -> x.template());
        Checks.told(() -> x.entry(0));
        dueCounts(x, 32, 6, 8);
    }

    private static void dueCounts(CatalogueSet x, int... want) {
        for (int what = 0; what < 3; what++) {
            int w = what;
            checks.due("count(" + what + ")", want[what], () -> x.count(w));
        }
    }

    private static void countNoneOfThese() {
        checks.sentence("Promise 15", "IndexOutOfBoundsException: none of these.");
        CatalogueSet x = Checks.withTexts(6, 3, "a");
        for (int what : new int[] {LOW, -1, 3, 4, 256, HIGH}) {
            checks.outOfBounds("count(" + what + ")", () -> x.count(what));
        }
        checks.due("count(2)", 1, () -> x.count(2));
    }
}
