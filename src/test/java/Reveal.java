/**
 * Tells all that an object holds, through its face alone, so that two objects can be compared.
 * No way of asking makes more calls than the 512 that an object is good for.
 */
final class Reveal {
    interface Maker {
        CatalogueSet make();
    }

    private final StringBuilder out = new StringBuilder();

    private Reveal() { }

    /** Most ways of asking change the object, so the maker makes one for each. */
    static String all(Maker maker) {
        Reveal way = new Reveal();
        way.tellLatest(maker.make());
        way.tellNext(maker.make());
        way.tellClaims(maker.make());
        way.tellPictures(maker.make());
        way.tellPadAsField(maker.make());
        way.tellPadAsOrder(maker.make());
        way.tellPadAsTemplate(maker.make());
        way.tellTemplates(maker.make());
        return way.out.toString();
    }

    private void tell(Checks.Call call) {
        out.append(Checks.told(call)).append(' ');
    }

    /** What stands without any change: the counts, the index and the latest run. */
    private void tellLatest(CatalogueSet x) {
        for (int what = 0; what <= 2; what++) {
            int w = what;
            tell(() -> x.count(w));
        }
        for (int f = 0; f < 4; f++) {
            int field = f;
            for (int k = 0; k <= 8; k++) {
                int place = k;
                tell(() -> x.index(field, place));
            }
        }
        for (int what = 0; what <= 4; what++) {
            int w = what;
            tell(() -> x.about(w));
        }
        tellPages(x);
        tellLines(x);
        out.append('\n');
    }

    private static boolean answers(Checks.Call call) {
        return !Checks.told(call).startsWith("I");
    }

    private void tellPages(CatalogueSet x) {
        int pages = answers(() -> x.about(0)) ? x.about(0) : 0;
        for (int p = 1; p <= pages; p++) {
            for (int k = 0; k < 30; k++) {
                tellRow(x, p, k);
            }
        }
    }

    private void tellRow(CatalogueSet x, int page, int k) {
        tell(() -> x.line(page, k, 0));
        tell(() -> x.line(page, k, 1));
    }

    private void tellLines(CatalogueSet x) {
        for (int e = 0; e < 8; e++) {
            int entry = e;
            tell(() -> x.page(entry));
            tell(() -> x.sign(entry, -1, -1));
            if (answers(() -> x.sign(entry, -1, -1))) {
                out.append(Checks.lines(x, e)).append(' ');
            }
        }
    }

    private void tellNext(CatalogueSet x) {
        tell(() -> x.run());
        tellLatest(x);
    }

    /** Behind it no claim bars the run, so that it tells fields and pictures, too. */
    private void tellClaims(CatalogueSet x) {
        for (int e = 0; e < x.count(2); e++) {
            int entry = e;
            for (int c = 0; c < 4; c++) {
                int claim = c;
                tell(() -> x.claim(entry, claim, -1));
            }
        }
        tellNext(x);
    }

    private void tellPictures(CatalogueSet x) {
        for (int e = 0; e < x.count(2); e++) {
            int entry = e;
            tell(() -> x.picture(entry, 0));
        }
        tellNext(x);
    }

    private void tellPadAsField(CatalogueSet x) {
        tell(() -> x.field(0, 0));
        tellNext(x);
    }

    private void tellPadAsOrder(CatalogueSet x) {
        tell(() -> x.order());
        tellNext(x);
    }

    private void tellPadAsTemplate(CatalogueSet x) {
        tell(() -> x.template());
        tell(() -> x.entry(x.count(1) - 1));
        tellNext(x);
    }

    private void tellTemplates(CatalogueSet x) {
        for (int t = 0; t < 6; t++) {
            int template = t;
            tell(() -> x.entry(template));
        }
        tellNext(x);
    }
}
