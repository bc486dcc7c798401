/** The boundary cases that promises 1 to 8 name, each sentence on its own. */
public final class GivingBoundaryTest {
    private static final int LOW = Integer.MIN_VALUE;
    private static final int HIGH = Integer.MAX_VALUE;
    private static final String LETTERS_31 = "abcdefghijklmnopqrstuvwxyzabcde";
    private static final String ALPHABET = "abcdefghijklmnopqrstuvwxyz";
    // What is no number of four things: beside 0 .. 3, and far from them.
    private static final int[] NO_FOUR = {LOW, -1, 4, 5, 256, HIGH};

    private static Checks checks;

    public static void main(String[] args) {
        checks = new Checks("GivingBoundaryTest");
        checks.each(
            GivingBoundaryTest::newObjectHasNothingElse, GivingBoundaryTest::unitOrder,
            GivingBoundaryTest::unitNothing, GivingBoundaryTest::unitTooMany, GivingBoundaryTest::unitWrongSign,
            GivingBoundaryTest::templateNumber, GivingBoundaryTest::templateWrongPlace,
            GivingBoundaryTest::templateWrongEnd, GivingBoundaryTest::templateEmptiesPad,
            GivingBoundaryTest::templateSeventh, GivingBoundaryTest::entryNumber, GivingBoundaryTest::entryNoTemplate,
            GivingBoundaryTest::entryNinth, GivingBoundaryTest::fieldTaken, GivingBoundaryTest::fieldRefused,
            GivingBoundaryTest::claimTold, GivingBoundaryTest::claimRefused, GivingBoundaryTest::pictureTold,
            GivingBoundaryTest::pictureRefused, GivingBoundaryTest::orderTaken, GivingBoundaryTest::orderRefused);
        checks.end();
    }

    // ---- promise 1

    private static void newObjectHasNothingElse() {
        checks.sentence("Promise 1", "Pages of that width and height; nothing else.");
        int[][] sizes = {{6, 3}, {40, 30}, {LOW, HIGH}, {HIGH, LOW}, {0, 0}};
        for (int[] size : sizes) {
            CatalogueSet x = new CatalogueSet(size[0], size[1]);
            checks.due("signs of a new one", 0, () -> x.count(0));
            checks.due("templates of a new one", 0, () -> x.count(1));
            checks.due("entries of a new one", 0, () -> x.count(2));
            for (int f = 0; f < 4; f++) {
                checks.dueIndex(x, f);
            }
            checks.badState("a new one's run", () -> x.about(0));
            checks.outOfBounds("a new one's template", () -> x.entry(0));
            checks.outOfBounds("a new one's entry", () -> x.picture(0, 0));
            checks.due("run of a new one", 0, () -> x.run());
            checks.dueAbout(x, 0, 1, 1, 0, 0);
        }
    }

    // ---- promise 2

    private static void unitOrder() {
        checks.sentence("Promise 2", "Signs come behind the pad: of a, then of b, the lowest eight bits first");
        CatalogueSet x = new CatalogueSet(40, 3);
        checks.due("unit on an empty pad", 8, () -> x.unit(0x64636261, 0x68676665));
        checks.due("unit behind it", 16, () -> x.unit(0x6c6b6a69, 0x706f6e6d));
        checks.due("the pad's signs", "abcdefghijklmnop", padOf(x));
        // The greatest signs in the highest bits: nothing of them comes lower down.
        checks.due("unit of the greatest signs", 8, () -> x.unit(0x7e7e7e7e, 0x7e7e7e7e));
    }

    /** What the pad has, if it is a template. */
    private static String padOf(CatalogueSet x) {
        int entry = x.entry(x.template());
        x.run();
        return Checks.lines(x, entry);
    }

    private static void unitNothing() {
        checks.sentence("Promise 2", "0 is none: how many there are.");
        CatalogueSet x = new CatalogueSet(40, 3);
        checks.due("unit of nothing on an empty pad", 0, () -> x.unit(0, 0));
        for (int place = 0; place < 4; place++) {
            int letter = 'a' + place << 8 * place;
            int signs = place;
            checks.due("unit of one sign in a", 2 * signs + 1, () -> x.unit(letter, 0));
            checks.due("unit of one sign in b", 2 * signs + 2, () -> x.unit(0, letter));
        }
        checks.due("unit with nothing between", 12, () -> x.unit(0x66000065, 0x00680067));
        checks.due("the pad's signs", "aabbccddefgh", padOf(x));
        Checks.put(x, LETTERS_31 + "f");
        checks.due("unit of nothing on a full pad", 32, () -> x.unit(0, 0));
    }

    private static void unitTooMany() {
        checks.sentence("Promise 2", "IllegalStateException: there would be more than 32.");
        for (int there = 24; there <= 32; there++) {
            for (int more = 0; more <= 8; more++) {
                dueUnit(there, more);
            }
        }
    }

    private static void dueUnit(int there, int more) {
        CatalogueSet x = new CatalogueSet(40, 3);
        Checks.put(x, (LETTERS_31 + "f").substring(0, there));
        int a = Checks.packed("aaaaaaaa".substring(0, more), 0);
        int b = Checks.packed("aaaaaaaa".substring(0, more), 4);
        int sum = there + more;
        String want = sum > 32 ? "IllegalStateException" : String.valueOf(sum);
        checks.due("unit with " + there + " + " + more, want, Checks.told(() -> x.unit(a, b)));
        checks.due("the pad behind it", sum > 32 ? there : sum, () -> x.count(0));
    }

    private static void unitWrongSign() {
        checks.sentence("Promise 2", "IllegalArgumentException: a sign that is not 32 .. 126.");
        CatalogueSet x = new CatalogueSet(40, 3);
        Checks.put(x, "ab");
        for (int sign : new int[] {1, 31, 127, 128, 129, 254, 255}) {
            for (int place = 0; place < 4; place++) {
                int alone = sign << 8 * place;
                int among = 0x61616161 & ~(255 << 8 * place) | alone;
                checks.badArgument("unit with " + sign + " in a", () -> x.unit(alone, 0));
                checks.badArgument("unit with " + sign + " in b", () -> x.unit(0, alone));
                checks.badArgument("unit with " + sign + " among others in a", () -> x.unit(among, 0x61616161));
                checks.badArgument("unit with " + sign + " among others in b", () -> x.unit(0x61616161, among));
            }
        }
        for (int all : new int[] {LOW, HIGH, -1}) {
            checks.badArgument("unit of " + all, () -> x.unit(all, all));
        }
        checks.due("the pad behind them", 2, () -> x.count(0));
        checks.due("the least sign and the greatest", 10, () -> x.unit(0x207e207e, 0x7e207e20));
    }

    // ---- promise 3

    private static void templateNumber() {
        checks.sentence("Promise 3", "The pad becomes a template, and is empty: its number");
        CatalogueSet x = new CatalogueSet(40, 30);
        String[] texts = {"", "a", LETTERS_31 + "f", " ", "[]", "z"};
        for (int t = 0; t < 6; t++) {
            String text = texts[t];
            checks.due("template " + text, t, () -> Checks.template(x, text));
            checks.due("the pad behind it", 0, () -> x.count(0));
            checks.due("templates", t + 1, () -> x.count(1));
            x.entry(t);
        }
        x.run();
        for (int t = 0; t < 6; t++) {
            checks.due("the template's text", texts[t].replace("[]", "").trim(), Checks.lines(x, t));
        }
    }

    private static void dueWrong(String text, int want) {
        CatalogueSet x = new CatalogueSet(6, 3);
        checks.due("template " + text, want, () -> Checks.template(x, text));
        checks.due("templates behind it", 0, () -> x.count(1));
    }

    private static void templateWrongPlace() {
        checks.sentence("Promise 3", "-1 minus the place of the first sign that no template could have there behind "
            + "those ahead of it");
        for (int place = 0; place < 32; place++) {
            String ahead = LETTERS_31.substring(0, place);
            for (String wrong : new String[] {"A", "`", "{", "!", "~", "0", "]", "\\", "^", "\"", "$", "?"}) {
                dueWrong(ahead + wrong, -1 - place);
                dueWrong((ahead + wrong + LETTERS_31).substring(0, 32), -1 - place);
            }
        }
        for (int place = 1; place < 32; place++) {
            String ahead = LETTERS_31.substring(0, place - 1);
            for (String wrong : new String[] {"#/", "#4", "#a", "# ", "##", "#@", "#[", "#]", "@/", "@8", "@z", "@#",
                "@@", "@[", "@]", "[["}) {
                dueWrong(ahead + wrong, -1 - place);
            }
        }
        dueWrong("A#", -1);
        dueWrong("[#4", -3);
        dueWrong("[a]]", -4);
        dueWrong("#0#1#2#3@0@7#", -13);
        dueWrong("#0#1#2#3@0@7aa@7A", -15);
        dueWrong("[#0#1#2#3@0@7@", -14);
    }

    private static void templateWrongEnd() {
        checks.sentence("Promise 3", "(the pad's length, if only its end is wrong)");
        for (int length = 1; length <= 32; length++) {
            String ahead = LETTERS_31.substring(0, length - 1);
            dueWrong(ahead + "#", -1 - length);
            dueWrong(ahead + "@", -1 - length);
            dueWrong(ahead + "[", -1 - length);
            dueWrong("[" + ahead, -1 - length);
        }
        dueWrong("[#", -3);
        dueWrong("[#0", -4);
        dueWrong("[a][", -5);
        dueWrong("[#0#1#2#3@0@7", -14);
    }

    private static void templateEmptiesPad() {
        checks.sentence("Promise 3", "then it is empty, too.");
        CatalogueSet x = new CatalogueSet(6, 3);
        for (String text : new String[] {"A", "#", "[", LETTERS_31 + "A", LETTERS_31 + "#", "#4", "a]"}) {
            checks.due("whether " + text + " is wrong", true, Checks.template(x, text) < 0);
            checks.due("the pad behind it", 0, () -> x.count(0));
        }
        checks.due("a template behind wrong ones", 0, () -> Checks.template(x, "ab"));
        x.entry(0);
        x.run();
        checks.due("its text", "ab", Checks.lines(x, 0));
    }

    private static void templateSeventh() {
        checks.sentence("Promise 3", "IllegalStateException: there are six.");
        CatalogueSet x = new CatalogueSet(6, 3);
        for (int t = 0; t < 6; t++) {
            checks.due("a wrong template does not count", -1, () -> Checks.template(x, "A"));
            checks.due("template " + t, t, () -> Checks.template(x, "a"));
        }
        checks.badState("a seventh, empty template", () -> x.template());
        Checks.put(x, "ab");
        checks.badState("a seventh template", () -> x.template());
        Checks.put(x, "A");
        checks.badState("a seventh, wrong template", () -> x.template());
        checks.due("the pad stays", 3, () -> x.count(0));
        checks.due("templates stay", 6, () -> x.count(1));
    }

    // ---- promise 4

    private static CatalogueSet withTwoTemplates() {
        CatalogueSet x = new CatalogueSet(6, 30);
        Checks.template(x, "one");
        Checks.template(x, "two");
        return x;
    }

    private static void entryNumber() {
        checks.sentence("Promise 4", "An entry: its number.");
        CatalogueSet x = withTwoTemplates();
        for (int e = 0; e < 8; e++) {
            int number = e;
            checks.due("entry " + e, e, () -> x.entry(number & 1));
            checks.due("entries", e + 1, () -> x.count(2));
        }
        x.run();
        checks.due("the first entry", "one", Checks.lines(x, 0));
        checks.due("the last entry", "two", Checks.lines(x, 7));
    }

    private static void entryNoTemplate() {
        checks.sentence("Promise 4", "IndexOutOfBoundsException: template.");
        CatalogueSet x = new CatalogueSet(6, 3);
        for (int t = 0; t <= 6; t++) {
            int there = t;
            for (int wrong : new int[] {LOW, -1, there, 7, 256, HIGH}) {
                checks.outOfBounds("entry(" + wrong + ") with " + t, () -> x.entry(wrong));
            }
            checks.due("entries with " + t, t, () -> x.count(2));
            if (t < 6) {
                x.template();
                checks.due("entry of the last template", t, () -> x.entry(there));
            }
        }
    }

    private static void entryNinth() {
        checks.sentence("Promise 4", "IllegalStateException: there are eight.");
        CatalogueSet x = withTwoTemplates();
        for (int e = 0; e < 8; e++) {
            checks.due("entry " + e, e, () -> x.entry(1));
        }
        checks.badState("a ninth entry", () -> x.entry(0));
        checks.badState("a ninth entry", () -> x.entry(1));
        checks.outOfBounds("a ninth entry without template", () -> x.entry(2));
        checks.due("entries", 8, () -> x.count(2));
    }

    // ---- promise 5

    private static void fieldTaken() {
        checks.sentence("Promise 5", "The pad becomes a field of an entry, and is empty: how many signs it has.");
        CatalogueSet x = Checks.withEntries(40, 30, "#0q#1q#2q#3", 8);
        for (int e = 0; e < 8; e += 7) {
            for (int f = 0; f < 4; f++) {
                int entry = e;
                int field = f;
                checks.due("an empty field", 0, () -> x.field(entry, field));
                checks.due("a field of 32", 32, () -> Checks.field(x, entry, field, LETTERS_31 + "f"));
                checks.due("the pad behind it", 0, () -> x.count(0));
                checks.due("a field of blanks", 3, () -> Checks.field(x, entry, field, "   "));
                checks.due("a field of one", 1, () -> Checks.field(x, entry, field, "" + (char) ('a' + field)));
            }
            x.run();
            checks.due("the fields", "aqbqcqd", Checks.lines(x, e));
            checks.due("the fields of another", "qqq", Checks.lines(x, 3));
        }
        checks.due("a field that is empty again", 0, () -> x.field(7, 3));
        x.run();
        checks.due("the fields with an empty one", "aqbqcq", Checks.lines(x, 7));
    }

    private static void fieldRefused() {
        checks.sentence("Promise 5", "IndexOutOfBoundsException; IllegalArgumentException: it is no field's text.");
        CatalogueSet x = Checks.withEntries(40, 3, "#0", 4);
        for (String text : new String[] {"", "ab", "A", "0"}) {
            Checks.put(x, text);
            int signs = x.count(0);
            for (int nowhere : NO_FOUR) {
                checks.outOfBounds("field(" + nowhere + ", 0)", () -> x.field(nowhere, 0));
                checks.outOfBounds("field(0, " + nowhere + ")", () -> x.field(0, nowhere));
            }
            checks.due("the pad behind them", signs, () -> x.count(0));
        }
        checks.badArgument("no field's text", () -> x.field(3, 3));
        checks.due("the pad behind it", 4, () -> x.count(0));
        for (String text : new String[] {"`", "{", "a!", "Za", "a9a", "#0", "[a]", "~", "@"}) {
            CatalogueSet y = Checks.withTexts(40, 3, "old");
            checks.badArgument("field " + text, () -> Checks.field(y, 0, 0, text));
            checks.due("the pad behind it", text.length(), () -> y.count(0));
            y.run();
            checks.due("the field behind it", "old", Checks.lines(y, 0));
        }
    }

    // ---- promise 6

    private static void claimTold() {
        checks.sentence("Promise 6", "A claim of an entry is told: with a source (1), without (0), or not any more "
            + "(NONE): what it was.");
        CatalogueSet x = Checks.withEntries(40, 3, "", 8);
        int[] sources = {0, 0, 1, 1, 0, -1, -1, 1, -1, 0};
        for (int e = 0; e < 8; e += 7) {
            for (int c = 0; c < 4; c++) {
                int entry = e;
                int claim = c;
                int was = CatalogueSet.NONE;
                for (int source : sources) {
                    checks.due("claim(" + e + ", " + c + ", " + source + ")", was, () -> x.claim(entry, claim, source));
                    was = source;
                }
            }
        }
        checks.due("another entry's claim", -1, () -> x.claim(1, 0, -1));
        checks.due("run", -1, () -> x.run());
    }

    private static void claimRefused() {
        checks.sentence("Promise 6", "IndexOutOfBoundsException; IllegalArgumentException: none of these.");
        CatalogueSet x = Checks.withEntries(40, 3, "", 4);
        x.claim(3, 3, 1);
        for (int nowhere : NO_FOUR) {
            for (int source = -2; source <= 2; source++) {
                int s = source;
                checks.outOfBounds("claim(" + nowhere + ", 0, " + s + ")", () -> x.claim(nowhere, 0, s));
                checks.outOfBounds("claim(0, " + nowhere + ", " + s + ")", () -> x.claim(0, nowhere, s));
            }
        }
        for (int source : new int[] {LOW, -2, 2, 3, 256, HIGH}) {
            checks.badArgument("claim with " + source, () -> x.claim(3, 3, source));
        }
        checks.due("the claim behind them", 1, () -> x.claim(3, 3, 1));
    }

    // ---- promise 7

    private static void pictureTold() {
        checks.sentence("Promise 7", "An entry's picture: how high it was.");
        CatalogueSet x = Checks.withEntries(40, 30, "", 8);
        for (int e = 0; e < 8; e += 7) {
            int entry = e;
            checks.due("the first picture", 0, () -> x.picture(entry, 30));
            checks.due("the highest", 30, () -> x.picture(entry, 1));
            checks.due("the lowest", 1, () -> x.picture(entry, 0));
            checks.due("none", 0, () -> x.picture(entry, 0));
            checks.due("none again", 0, () -> x.picture(entry, 2));
        }
        checks.due("another entry's picture", 0, () -> x.picture(1, 0));
        x.run();
        checks.duePages(x, 1, -1, -1, -1, -1, -1, -1, 1);
    }

    private static void pictureRefused() {
        checks.sentence("Promise 7", "IndexOutOfBoundsException; IllegalArgumentException: h is not 0 .. 30.");
        CatalogueSet x = Checks.withEntries(40, 3, "", 4);
        x.picture(3, 7);
        for (int nowhere : NO_FOUR) {
            for (int h : new int[] {-1, 0, 30, 31}) {
                checks.outOfBounds("picture(" + nowhere + ", " + h + ")", () -> x.picture(nowhere, h));
            }
        }
        for (int h : new int[] {LOW, -1, 31, 256, HIGH}) {
            checks.badArgument("picture of " + h, () -> x.picture(3, h));
        }
        checks.due("the picture behind them", 7, () -> x.picture(3, 0));
        // A picture may be higher than a page; only a run is refused for it.
        checks.due("a picture higher than the page", 0, () -> x.picture(0, 30));
    }

    // ---- promise 8

    private static void orderTaken() {
        checks.sentence("Promise 8", "The pad becomes the order of the index, and is empty: how many letters it has.");
        CatalogueSet x = Checks.withTexts(6, 3, "a", "m", "z");
        checks.due("an empty order", 0, () -> x.order());
        checks.dueIndex(x, 0, 0, 1, 2);
        checks.due("an order of one", 1, () -> Checks.order(x, "z"));
        checks.due("the pad behind it", 0, () -> x.count(0));
        checks.dueIndex(x, 0, 2, 0, 1);
        checks.due("another order of one", 1, () -> Checks.order(x, "m"));
        checks.dueIndex(x, 0, 1, 0, 2);
        checks.due("an order of 26", 26, () -> Checks.order(x, new StringBuilder(ALPHABET).reverse().toString()));
        checks.due("the pad behind it", 0, () -> x.count(0));
        checks.dueIndex(x, 0, 2, 1, 0);
        checks.due("an empty order again", 0, () -> x.order());
        checks.dueIndex(x, 0, 0, 1, 2);
    }

    private static void orderRefused() {
        checks.sentence("Promise 8", "IllegalArgumentException: it has anything but \"a\" .. \"z\", or a letter "
            + "twice.");
        for (char sign = 32; sign <= 126; sign++) {
            boolean isLetter = sign >= 'a' && sign <= 'z';
            dueOrder("" + sign, isLetter);
            dueOrder("yx" + sign, isLetter && sign != 'x' && sign != 'y');
            dueOrder(ALPHABET + sign, false);
        }
        dueOrder("aa", false);
        dueOrder(ALPHABET, true);
        dueOrder(ALPHABET + "abcdef", false);
        dueOrder("bcdefghijklmnopqrstuvwxyzz", false);
    }

    private static void dueOrder(String text, boolean right) {
        CatalogueSet x = Checks.withTexts(6, 3, "a", "b");
        Checks.order(x, "b");
        String want = right ? String.valueOf(text.length()) : "IllegalArgumentException";
        checks.due("order " + text, want, Checks.told(() -> Checks.order(x, text)));
        checks.due("the pad behind it", right ? 0 : text.length(), () -> x.count(0));
        if (!right) {
            checks.dueIndex(x, 0, 1, 0);
        }
    }
}
