/** What the project's tests share: asking a call for its answer or its exception's name. */
final class Checks {
    interface Call {
        int answer();
    }

    private final String where;
    private int wrong = 0;
    private int asked = 0;

    Checks(String where) {
        this.where = where;
    }

    /** An answer as a text; for an exception its simple name. */
    static String told(Call call) {
        try {
            return Integer.toString(call.answer());
        } catch (RuntimeException e) {
            return e.getClass().getSimpleName();
        }
    }

    void due(String what, Object want, Object got) {
        asked++;
        if (!want.equals(got)) {
            wrong++;
            if (wrong <= 50) {
                System.out.println(where + ": " + what + " answered " + got + ", due is " + want);
            }
        }
    }

    void due(String what, int want, Call call) {
        due(what, Integer.toString(want), told(call));
    }

    void outOfBounds(String what, Call call) {
        due(what, "IndexOutOfBoundsException", told(call));
    }

    void badState(String what, Call call) {
        due(what, "IllegalStateException", told(call));
    }

    void badArgument(String what, Call call) {
        due(what, "IllegalArgumentException", told(call));
    }

    void end() {
        System.out.println(where + ": " + asked + " asked, " + wrong + " wrong");
        if (wrong != 0) {
            System.exit(1);
        }
    }

    /** Puts a text behind the pad, up to eight signs a call. */
    static void put(CatalogueSet x, String text) {
        for (int i = 0; i < text.length(); i += 8) {
            x.unit(packed(text, i), packed(text, i + 4));
        }
    }

    private static int packed(String text, int from) {
        int word = 0;
        for (int i = 0; i < 4 && from + i < text.length(); i++) {
            word |= text.charAt(from + i) << (8 * i);
        }
        return word;
    }

    static int template(CatalogueSet x, String text) {
        put(x, text);
        return x.template();
    }

    static int field(CatalogueSet x, int entry, int f, String text) {
        put(x, text);
        return x.field(entry, f);
    }

    static int order(CatalogueSet x, String text) {
        put(x, text);
        return x.order();
    }

    /** A line of the latest run as a text. */
    static String line(CatalogueSet x, int entry, int l) {
        StringBuilder text = new StringBuilder();
        for (int i = 0; i < x.sign(entry, l, -1); i++) {
            text.append((char) x.sign(entry, l, i));
        }
        return text.toString();
    }

    /** All lines of an entry in the latest run, with "/" between them. */
    static String lines(CatalogueSet x, int entry) {
        StringBuilder text = new StringBuilder();
        for (int l = 0; l < x.sign(entry, -1, -1); l++) {
            text.append(l == 0 ? "" : "/").append(line(x, entry, l));
        }
        return text.toString();
    }
}
