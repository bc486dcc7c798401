/** That a refused call changes nothing: all that an object tells is the same behind one. */
public final class RefusalBoundaryTest {
    private static final String BOUNDS = "IndexOutOfBoundsException";
    private static final String STATE = "IllegalStateException";
    private static final String ARGUMENT = "IllegalArgumentException";

    private interface Act {
        int on(CatalogueSet x);
    }

    private static Checks checks;

    public static void main(String[] args) {
        checks = new Checks("RefusalBoundaryTest");
        checks.each(
            RefusalBoundaryTest::exceptionsChangeNothing, RefusalBoundaryTest::refusedRunChangesNothing);
        checks.end();
    }

    private static void exceptionsChangeNothing() {
        checks.sentence("Terms, EXCEPTIONS", "Such a call changes nothing.");
        refusedByNew();
        refusedByPartWay();
        refusedByFull();
    }

    private static void refusedRunChangesNothing() {
        checks.sentence("Promise 9", "or, nothing changing,");
        dueNothing("run with a claim without source", "-3", RefusalBoundaryTest::barred, x -> x.run());
        dueNothing("run with a long word", "-103", RefusalBoundaryTest::unsettable, x -> x.run());
        dueNothing("run with a long word ahead of a run", "-101",
            () -> Checks.withTexts(6, 3, "toolong"), x -> x.run());
        dueNothing("run with a high picture", "-102", () -> {
            CatalogueSet x = partWay();
            x.picture(1, 30);
            return x;
        }, x -> x.run());
        dueNothing("run refused in its second pass", "-101", RefusalBoundaryTest::unsettableLate, x -> x.run());
    }

    /** The call answers as told, and then all is as it is without that call. */
    private static void dueNothing(String what, String refusal, Reveal.Maker maker, Act act) {
        CatalogueSet once = maker.make();
        checks.due(what, refusal, Checks.told(() -> act.on(once)));
        String behind = Reveal.all(() -> {
            CatalogueSet x = maker.make();
            Checks.told(() -> act.on(x));
            return x;
        });
        checks.due("all that stands behind " + what, Reveal.all(maker), behind);
    }

    // ---- objects to be refused by

    /** Some of all there is; entry 3 came behind the run; the pad could be anything. */
    private static CatalogueSet partWay() {
        CatalogueSet x = new CatalogueSet(6, 4);
        Checks.template(x, "#0[ #1] @2");
        Checks.template(x, "b #3");
        for (int e = 0; e < 3; e++) {
            x.entry(e % 2);
            Checks.field(x, e, 0, new String[] {"ab", "b", "cab"}[e]);
            Checks.field(x, e, 3, new String[] {"c", "b", "a"}[e]);
        }
        Checks.field(x, 0, 1, "x");
        x.claim(0, 3, 1);
        x.claim(1, 0, 1);
        x.picture(2, 2);
        Checks.order(x, "cb");
        x.run();
        x.entry(1);
        x.picture(0, 1);
        Checks.field(x, 2, 3, "zz");
        Checks.put(x, "bca");
        return x;
    }

    private static CatalogueSet barred() {
        CatalogueSet x = partWay();
        x.claim(2, 1, 0);
        return x;
    }

    private static CatalogueSet unsettable() {
        CatalogueSet x = partWay();
        x.order();
        Checks.field(x, 2, 0, "toolong");
        return x;
    }

    /** Entry 2 comes on page 10, which makes entry 0's word too long. */
    private static CatalogueSet unsettableLate() {
        CatalogueSet x = new CatalogueSet(6, 3);
        Checks.template(x, "abcde@2");
        Checks.template(x, "#0 #0 #0 #0");
        for (int e = 0; e < 3; e++) {
            x.entry(e == 1 ? 1 : 0);
        }
        x.run();
        Checks.field(x, 1, 0, "abc abc abc abc abc abc abc");
        return x;
    }

    private static CatalogueSet padded(CatalogueSet x, String text) {
        Checks.put(x, text);
        return x;
    }

    /** Six templates, eight entries and a pad of 32 signs. */
    private static CatalogueSet full(String lastSign) {
        CatalogueSet x = new CatalogueSet(40, 30);
        for (int t = 0; t < 6; t++) {
            Checks.template(x, "ab".charAt(t % 2) + "#" + t % 4);
        }
        for (int e = 0; e < 8; e++) {
            x.entry(e % 6);
            Checks.field(x, e, e % 4, "text");
            x.claim(e, e % 4, 1);
            x.picture(e, e);
        }
        x.run();
        return padded(x, "abcdefghijklmnopqrstuvwxyzabcde" + lastSign);
    }

    // ---- calls that are refused

    private static void refusedByNew() {
        Reveal.Maker fresh = () -> new CatalogueSet(6, 3);
        dueNothing("entry(0) of a new one", BOUNDS, fresh, x -> x.entry(0));
        dueNothing("field(0, 0) of a new one", BOUNDS, fresh, x -> x.field(0, 0));
        dueNothing("claim(0, 0, 1) of a new one", BOUNDS, fresh, x -> x.claim(0, 0, 1));
        dueNothing("picture(0, 1) of a new one", BOUNDS, fresh, x -> x.picture(0, 1));
        dueNothing("about(0) of a new one", STATE, fresh, x -> x.about(0));
        dueNothing("page(0) of a new one", BOUNDS, fresh, x -> x.page(0));
        dueNothing("line(1, 0, 0) of a new one", STATE, fresh, x -> x.line(1, 0, 0));
        dueNothing("sign(0, 0, 0) of a new one", BOUNDS, fresh, x -> x.sign(0, 0, 0));
        Reveal.Maker noRun = () -> Checks.withTexts(6, 3, "a", "b");
        dueNothing("page(0) ahead of a run", STATE, noRun, x -> x.page(0));
        dueNothing("sign(1, -1, -1) ahead of a run", STATE, noRun, x -> x.sign(1, -1, -1));
    }

    private static void refusedByPartWay() {
        Reveal.Maker some = RefusalBoundaryTest::partWay;
        dueNothing("unit with a wrong last sign", ARGUMENT, some, x -> x.unit(0x64646464, 0x7f646464));
        dueNothing("unit with a wrong first sign", ARGUMENT, some, x -> x.unit(0x6464641f, 0x64646464));
        dueNothing("entry(2)", BOUNDS, some, x -> x.entry(2));
        dueNothing("entry(-1)", BOUNDS, some, x -> x.entry(-1));
        dueNothing("field(4, 0)", BOUNDS, some, x -> x.field(4, 0));
        dueNothing("field(-1, 0)", BOUNDS, some, x -> x.field(-1, 0));
        dueNothing("field(0, 4)", BOUNDS, some, x -> x.field(0, 4));
        dueNothing("field(0, -1)", BOUNDS, some, x -> x.field(0, -1));
        dueNothing("claim(4, 0, 0)", BOUNDS, some, x -> x.claim(4, 0, 0));
        dueNothing("claim(0, 4, 0)", BOUNDS, some, x -> x.claim(0, 4, 0));
        dueNothing("claim(0, -1, 0)", BOUNDS, some, x -> x.claim(0, -1, 0));
        dueNothing("claim(0, 3, 2)", ARGUMENT, some, x -> x.claim(0, 3, 2));
        dueNothing("claim(0, 3, -2)", ARGUMENT, some, x -> x.claim(0, 3, -2));
        dueNothing("picture(4, 1)", BOUNDS, some, x -> x.picture(4, 1));
        dueNothing("picture(2, 31)", ARGUMENT, some, x -> x.picture(2, 31));
        dueNothing("picture(2, -1)", ARGUMENT, some, x -> x.picture(2, -1));
        dueNothing("about(5)", BOUNDS, some, x -> x.about(5));
        dueNothing("page(3)", BOUNDS, some, x -> x.page(3));
        dueNothing("line(9, 0, 0)", BOUNDS, some, x -> x.line(9, 0, 0));
        dueNothing("line(1, 4, 0)", BOUNDS, some, x -> x.line(1, 4, 0));
        dueNothing("line(1, 0, 2)", BOUNDS, some, x -> x.line(1, 0, 2));
        dueNothing("sign(3, -1, -1)", BOUNDS, some, x -> x.sign(3, -1, -1));
        dueNothing("sign(0, 9, -1)", BOUNDS, some, x -> x.sign(0, 9, -1));
        dueNothing("sign(0, 0, 9)", BOUNDS, some, x -> x.sign(0, 0, 9));
        dueNothing("index(4, 0)", BOUNDS, some, x -> x.index(4, 0));
        dueNothing("index(0, -1)", BOUNDS, some, x -> x.index(0, -1));
        dueNothing("count(3)", BOUNDS, some, x -> x.count(3));
        for (String wrong : new String[] {"A", "dA", "#0", "`", "{"}) {
            Reveal.Maker text = () -> padded(partWay(), wrong);
            dueNothing("field of bca" + wrong, ARGUMENT, text, x -> x.field(0, 0));
            dueNothing("order of bca" + wrong, ARGUMENT, text, x -> x.order());
        }
        dueNothing("order with a letter twice", ARGUMENT, () -> padded(partWay(), "b"), x -> x.order());
        dueNothing("order with a blank", ARGUMENT, () -> padded(partWay(), " "), x -> x.order());
    }

    private static void refusedByFull() {
        for (String lastSign : new String[] {"f", "A", "#"}) {
            Reveal.Maker all = () -> full(lastSign);
            dueNothing("unit on a full pad", STATE, all, x -> x.unit('a', 0));
            dueNothing("unit of eight on a full pad", STATE, all, x -> x.unit(0x61616161, 0x61616161));
            dueNothing("unit of a wrong sign on a full pad", STATE, all, x -> x.unit(0, 31));
            dueNothing("a seventh template", STATE, all, x -> x.template());
            dueNothing("a ninth entry", STATE, all, x -> x.entry(5));
            dueNothing("a ninth entry without template", BOUNDS, all, x -> x.entry(6));
            dueNothing("field of a ninth entry", BOUNDS, all, x -> x.field(8, 0));
            dueNothing("order of a full pad", ARGUMENT, all, x -> x.order());
        }
        dueNothing("a wrong field of a full pad", ARGUMENT, () -> full("A"), x -> x.field(7, 3));
        dueNothing("unit of five with 28", STATE, () -> padded(new CatalogueSet(6, 3), "b".repeat(28)),
            x -> x.unit(0x61616161, 'a'));
    }
}
