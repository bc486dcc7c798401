/** What the project's tests share: asking a call for its answer or its exception's name. */
final class Checks {
    interface Call {
        int answer();
    }

    // Of what is wrong, so much is shown; with sentences, so much of each.
    private static final int SHOWN_MOST = 12;

    private final String where;
    private int wrong = 0;
    private int asked = 0;
    private String sentence = "";
    private int sentences = 0;
    private int askedAhead = 0;
    private int shown = 0;

    Checks(String where) {
        this.where = where;
    }

    /** Each test on its own: one that is ended by an exception does not end the others. */
    void each(Runnable... tests) {
        for (Runnable test : tests) {
            try {
                test.run();
            } catch (RuntimeException e) {
                due("a call ahead of the next check", "an answer", e.toString());
            }
        }
    }

    /** Names the promise and the sentence of the document that the checks from here on are of. */
    void sentence(String promise, String text) {
        endSentence();
        sentence = promise + ", '" + text + "': ";
        sentences++;
        shown = 0;
    }

    private void endSentence() {
        if (sentences > 0 && asked == askedAhead) {
            wrong++;
            System.out.println(where + ": " + sentence + "has no check");
        }
        askedAhead = asked;
    }

    /** An answer as a text; for an exception its simple name. */
    static String told(Call call) {
        try {
            return Integer.toString(call.answer());
        } catch (RuntimeException e) {
            return e.getClass().getSimpleName();
        }
    }

    void due(String what, Object want, Object got) {
        asked++;
        if (!want.equals(got)) {
            wrong++;
            shown++;
            if (shown <= SHOWN_MOST) {
                System.out.println(where + ": " + sentence + what + " answered " + got + ", due is " + want);
            }
        }
    }

    void due(String what, int want, Call call) {
        due(what, Integer.toString(want), told(call));
    }

    void outOfBounds(String what, Call call) {
        due(what, "IndexOutOfBoundsException", told(call));
    }

    void badState(String what, Call call) {
        due(what, "IllegalStateException", told(call));
    }

    void badArgument(String what, Call call) {
        due(what, "IllegalArgumentException", told(call));
    }

    /** The whole index of a field, and NONE behind it. */
    void dueIndex(CatalogueSet x, int f, int... want) {
        for (int k = 0; k < want.length; k++) {
            int place = k;
            due("index(" + f + ", " + k + ")", want[k], () -> x.index(f, place));
        }
        due("index behind the last", -1, () -> x.index(f, want.length));
    }

    /** Pages, passes, whether they settled, squares of lines, squares of pages. */
    void dueAbout(CatalogueSet x, int... want) {
        for (int what = 0; what < want.length; what++) {
            int w = what;
            due("about(" + what + ")", want[what], () -> x.about(w));
        }
    }

    /** The pages of entries 0, 1, .. */
    void duePages(CatalogueSet x, int... want) {
        for (int e = 0; e < want.length; e++) {
            int entry = e;
            due("page(" + e + ")", want[e], () -> x.page(entry));
        }
    }

    void end() {
        endSentence();
        String ofSentences = sentences == 0 ? "" : sentences + " sentences, ";
        System.out.println(where + ": " + ofSentences + asked + " asked, " + wrong + " wrong");
        if (wrong != 0) {
            System.exit(1);
        }
    }

    /** An object with one template and so many entries by it. */
    static CatalogueSet withEntries(int width, int height, String template, int entries) {
        CatalogueSet x = new CatalogueSet(width, height);
        template(x, template);
        for (int e = 0; e < entries; e++) {
            x.entry(0);
        }
        return x;
    }

    /** An object with an entry for each text, which is its field 0 and all that it prints. */
    static CatalogueSet withTexts(int width, int height, String... texts) {
        CatalogueSet x = withEntries(width, height, "#0", texts.length);
        for (int e = 0; e < texts.length; e++) {
            field(x, e, 0, texts[e]);
        }
        return x;
    }

    /** An object with an entry without lines for each picture. */
    static CatalogueSet withPictures(int height, int... pictures) {
        CatalogueSet x = withEntries(6, height, "", pictures.length);
        for (int e = 0; e < pictures.length; e++) {
            x.picture(e, pictures[e]);
        }
        return x;
    }

    /** Puts a text behind the pad, up to eight signs a call. */
    static void put(CatalogueSet x, String text) {
        for (int i = 0; i < text.length(); i += 8) {
            x.unit(packed(text, i), packed(text, i + 4));
        }
    }

    /** Up to four signs of a text, from a place on, as unit() takes them. */
    static int packed(String text, int from) {
        int word = 0;
        for (int i = 0; i < 4 && from + i < text.length(); i++) {
            word |= text.charAt(from + i) << (8 * i);
        }
        return word;
    }

    static int template(CatalogueSet x, String text) {
        put(x, text);
        return x.template();
    }

    static int field(CatalogueSet x, int entry, int f, String text) {
        put(x, text);
        return x.field(entry, f);
    }

    static int order(CatalogueSet x, String text) {
        put(x, text);
        return x.order();
    }

    /** A line of the latest run as a text. */
    static String line(CatalogueSet x, int entry, int l) {
        StringBuilder text = new StringBuilder();
        int signs = x.sign(entry, l, -1);
        for (int i = 0; i < signs; i++) {
            text.append((char) x.sign(entry, l, i));
        }
        return text.toString();
    }

    /** All lines of an entry in the latest run, with "/" between them. */
    static String lines(CatalogueSet x, int entry) {
        StringBuilder text = new StringBuilder();
        int lines = x.sign(entry, -1, -1);
        for (int l = 0; l < lines; l++) {
            text.append(l == 0 ? "" : "/").append(line(x, entry, l));
        }
        return text.toString();
    }
}
