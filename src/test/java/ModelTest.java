import java.util.ArrayList;
import java.util.List;
import java.util.Random;

/** Long runs of calls, made by a seed, each answer compared with the model's. */
public final class ModelTest {
    private static final int RUNS = 1500;
    private static final int CHAINS = 1000;
    private static final int CALLS = 511;

    private final Checks checks = new Checks("ModelTest");
    private final int[] passesSeen = new int[6];
    private int unsettledSeen = 0;
    private int settledLastSeen = 0;
    private int lateRefusalsSeen = 0;
    private int unsourcedSeen = 0;

    private Random dice;
    private CatalogueSet real;
    private Model model;
    private int seed;

    public static void main(String[] args) {
        new ModelTest().all();
    }

    private void all() {
        modelAgreesWithEveryWay();
        for (seed = 1; seed <= RUNS; seed++) {
            dice = new Random(seed);
            int width = seed % 3 == 0 ? 6 : dice.nextInt(48);
            int height = seed % 6 == 0 ? 3 : seed % 3 == 0 ? 4 + dice.nextInt(4) : dice.nextInt(seed % 2 == 0 ? 6 : 36);
            real = new CatalogueSet(width, height);
            model = new Model(width, height);
            if (seed % 6 == 0) {
                manyPages();
            } else if (seed % 3 == 0) {
                aboutTenPages();
            } else {
                anyCalls();
            }
        }
        for (; seed <= RUNS + CHAINS; seed++) {
            dice = new Random(seed);
            real = new CatalogueSet(6, 3);
            model = new Model(6, 3);
            linesAboutTenPages();
        }
        seenEnough("runs of one pass", passesSeen[1]);
        seenEnough("runs of two passes", passesSeen[2]);
        seenEnough("runs of three passes", passesSeen[3]);
        seenEnough("runs of four passes", passesSeen[4]);
        seenEnough("runs of five passes", passesSeen[5]);
        seenEnough("runs that did not settle", unsettledSeen);
        seenEnough("runs that settled with the fifth pass", settledLastSeen);
        seenEnough("runs refused behind the first pass", lateRefusalsSeen);
        seenEnough("runs refused for a claim", unsourcedSeen);
        checks.end();
    }

    private void seenEnough(String what, int seen) {
        System.out.println("ModelTest: " + what + ": " + seen);
        checks.due("whether there were " + what, true, seen > 0);
    }

    private void modelAgreesWithEveryWay() {
        Random sizesOf = new Random(7);
        for (int n = 0; n < 600; n++) {
            int room = 3 + sizesOf.nextInt(9);
            List<Integer> sizes = new ArrayList<>();
            for (int i = sizesOf.nextInt(12); i > 0; i--) {
                sizes.add(1 + sizesOf.nextInt(Math.min(room, 4)));
            }
            int gap = sizesOf.nextInt(2);
            checks.due("the best way for " + sizes + " in " + room, Model.bestOfAll(sizes, room, gap),
                Model.best(sizes, room, gap));
        }
    }

    private void same(String call, Checks.Call one, Checks.Call other) {
        checks.due("seed " + seed + ": " + call, Checks.told(other), Checks.told(one));
    }

    // ---- calls of all kinds, right ones and wrong ones

    private void anyCalls() {
        for (int n = 0; n < CALLS; n++) {
            anyCall();
        }
        everythingAsked();
    }

    private int near(int least, int most) {
        int roll = dice.nextInt(60);
        if (roll == 0) {
            return Integer.MIN_VALUE;
        }
        if (roll == 1) {
            return Integer.MAX_VALUE;
        }
        return roll < 8 ? least - 1 + dice.nextInt(most - least + 3) : least + dice.nextInt(most - least + 1);
    }

    private int someEntry() {
        return near(0, Math.max(1, model.count(2)) - 1);
    }

    private void anyCall() {
        switch (dice.nextInt(18)) {
            case 0: case 1: anyUnit(); break;
            case 2: put(someTemplate()); template(); break;
            case 3: entry(near(0, Math.max(1, model.count(1)) - 1)); break;
            case 4: case 5: case 6: put(someText()); field(someEntry(), near(0, 3)); break;
            case 7: field(someEntry(), near(0, 3)); break;
            case 8: claim(someEntry(), near(0, 3), dice.nextInt(8) == 0 ? near(-1, 1) : 1); break;
            case 9: picture(someEntry(), dice.nextInt(4) == 0 ? near(0, 30) : dice.nextInt(4)); break;
            case 10: put(someOrder()); order(); break;
            case 11: run(); break;
            case 12: askAbout(near(0, 4)); break;
            case 13: askPage(someEntry()); break;
            case 14: askLine(near(1, 4), near(0, 6), near(0, 1)); break;
            case 15: askSign(someEntry(), near(-1, 3), near(-1, 9)); break;
            case 16: askIndex(near(0, 3), near(0, 7)); break;
            default: askCount(near(0, 2)); break;
        }
    }

    private void anyUnit() {
        int a = dice.nextInt(4) == 0 ? dice.nextInt() : 0x61006162;
        int b = dice.nextInt(4) == 0 ? dice.nextInt(256) << 16 : 0x20007a00;
        same("unit(" + a + ", " + b + ")", () -> real.unit(a, b), () -> model.unit(a, b));
    }

    private String someTemplate() {
        String[] pieces = {"a", "bc", " ", " ", "#0", "#1", "#2 ", " #3", "@0", " @1", "@7", "[", "]", "[#1 a]",
            "[ @2 #0]", "#", "@9", "A", "[a]"};
        StringBuilder text = new StringBuilder();
        int kinds = dice.nextInt(3) == 0 ? pieces.length : 11;
        for (int n = dice.nextInt(10); n > 0; n--) {
            text.append(pieces[dice.nextInt(kinds)]);
        }
        return text.toString();
    }

    private String someText() {
        StringBuilder text = new StringBuilder();
        int blanks = 2 + dice.nextInt(5);
        for (int n = dice.nextInt(20) == 0 ? 0 : dice.nextInt(33); n > 0; n--) {
            text.append(dice.nextInt(blanks) == 0 ? ' ' : (char) ('a' + dice.nextInt(5)));
        }
        return dice.nextInt(25) == 0 ? text + "!" : text.toString();
    }

    private String someOrder() {
        StringBuilder text = new StringBuilder();
        for (int n = dice.nextInt(6); n > 0; n--) {
            char letter = (char) ('a' + dice.nextInt(6));
            if (text.indexOf(String.valueOf(letter)) < 0 || dice.nextInt(9) == 0) {
                text.append(letter);
            }
        }
        return text.toString();
    }

    // ---- books with many pages, so that numbers of two digits move what they tell of

    private void manyPages() {
        int templates = 1 + dice.nextInt(5);
        for (int t = 0; t < templates; t++) {
            put(pageTemplate());
            template();
        }
        for (int e = 0; e < 8; e++) {
            entry(dice.nextInt(templates));
        }
        for (int n = 0; n < 40; n++) {
            put(someText().replace("!", ""));
            field(dice.nextInt(8), dice.nextInt(4));
            picture(dice.nextInt(8), dice.nextInt(2));
            if (n % 4 == 3) {
                run();
            }
        }
        everythingAsked();
    }

    private String pageTemplate() {
        String[] pieces = {"#0 ", "#1 ", "#2 ", " #3 ", "@3", "@4 ", " a@5", "@6", " @7 ", "a@7", "a ", "bb "};
        StringBuilder text = new StringBuilder();
        for (int n = 4 + dice.nextInt(8); n > 0; n--) {
            text.append(pieces[dice.nextInt(pieces.length)]);
        }
        return text.substring(0, Math.min(32, text.length())).replaceAll("[#@]$", "");
    }

    /**
     * Two long entries fill some nine pages; behind them come pictures with short texts that
     * name their pages, so that a page's second digit moves the pictures to and fro.
     */
    private void aboutTenPages() {
        put("#0 #0 #0 #0 #0 #0");
        template();
        String[] texts = {"", "aaa a@T", "@S @T", "bbbb@T", "a@S b@T cc@S dd", "@T@T@T", "aa @S@T b", "bbb @T"};
        int first = 2 + dice.nextInt(6);
        int second = 2 + dice.nextInt(6);
        for (int t = 1; t < 6; t++) {
            String text = texts[dice.nextInt(texts.length)];
            put(text.replace("S", String.valueOf(first)).replace("T", String.valueOf(second)));
            template();
        }
        entry(0);
        entry(0);
        for (int e = 2; e < 8; e++) {
            entry(1 + dice.nextInt(5));
        }
        for (int n = 0; n < 30; n++) {
            String word = "aaaaaa ";
            put(word.repeat(2 + dice.nextInt(3)).trim());
            field(0, 0);
            put(word.repeat(2 + dice.nextInt(3)).trim());
            field(1, 0);
            for (int e = 2; e < 8; e++) {
                picture(e, dice.nextInt(6));
            }
            run();
        }
    }

    /**
     * One long entry fills some eight pages; behind it come entries of a line or two, where a
     * page's second digit makes a line more, which moves the next one's page, and so on.
     */
    private void linesAboutTenPages() {
        put("#0 #0 #0 #0 #0 #0");
        template();
        String[] texts = {"aaaa", "aaaa @", "aaaa @", "a@ a@", "a@", "aaa @ @", "@ aaaa @"};
        for (int t = 1; t < 6; t++) {
            put(withDigits(texts[dice.nextInt(texts.length)]));
            template();
        }
        entry(0);
        for (int e = 1; e < 8; e++) {
            entry(1 + dice.nextInt(5));
        }
        put("aaa aaa aaa aaa");
        field(0, 0);
        run();
        picture(1 + dice.nextInt(7), 1);
        run();
    }

    private String withDigits(String text) {
        StringBuilder whole = new StringBuilder();
        for (int i = 0; i < text.length(); i++) {
            whole.append(text.charAt(i)).append(text.charAt(i) == '@' ? 1 + dice.nextInt(7) : "");
        }
        return whole.toString();
    }

    // ---- one call on both

    private void put(String text) {
        for (int i = 0; i < text.length(); i++) {
            int sign = text.charAt(i);
            same("unit(0, " + sign + ")", () -> real.unit(0, sign), () -> model.unit(0, sign));
        }
    }

    private void template() {
        same("template()", () -> real.template(), () -> model.template());
        askCount(0);
    }

    private void entry(int t) {
        same("entry(" + t + ")", () -> real.entry(t), () -> model.entry(t));
    }

    private void field(int e, int f) {
        same("field(" + e + ", " + f + ")", () -> real.field(e, f), () -> model.field(e, f));
        // What no field takes would fill the pad for good.
        if (model.count(0) > 20) {
            put("A");
            template();
        }
    }

    private void claim(int e, int c, int source) {
        same("claim(" + e + ", " + c + ", " + source + ")", () -> real.claim(e, c, source),
            () -> model.claim(e, c, source));
    }

    private void picture(int e, int h) {
        same("picture(" + e + ", " + h + ")", () -> real.picture(e, h), () -> model.picture(e, h));
    }

    private void order() {
        same("order()", () -> real.order(), () -> model.order());
    }

    private void run() {
        int got = real.run();
        int want = model.run();
        checks.due("seed " + seed + ": run()", want, got);
        unsourcedSeen += want < 0 && want > -100 ? 1 : 0;
        lateRefusalsSeen += model.wasRefusedLate() ? 1 : 0;
        if (want >= 0) {
            passesSeen[model.about(1)]++;
            unsettledSeen += 1 - model.about(2);
            settledLastSeen += model.about(1) == 5 ? model.about(2) : 0;
            everythingAsked();
        }
    }

    private void askAbout(int what) {
        same("about(" + what + ")", () -> real.about(what), () -> model.about(what));
    }

    private void askPage(int e) {
        same("page(" + e + ")", () -> real.page(e), () -> model.page(e));
    }

    private void askLine(int page, int k, int what) {
        same("line(" + page + ", " + k + ", " + what + ")", () -> real.line(page, k, what),
            () -> model.line(page, k, what));
    }

    private void askSign(int e, int l, int i) {
        same("sign(" + e + ", " + l + ", " + i + ")", () -> real.sign(e, l, i), () -> model.sign(e, l, i));
    }

    private void askIndex(int f, int k) {
        same("index(" + f + ", " + k + ")", () -> real.index(f, k), () -> model.index(f, k));
    }

    private void askCount(int what) {
        same("count(" + what + ")", () -> real.count(what), () -> model.count(what));
    }

    /** These calls change nothing, so they may go beyond the 512 of an object. */
    private void everythingAsked() {
        for (int what = 0; what <= 4; what++) {
            askAbout(what);
        }
        int pages = Checks.told(() -> model.about(0)).startsWith("Illegal") ? 0 : model.about(0);
        for (int page = 1; page <= pages + 1; page++) {
            for (int k = 0; k <= 30; k++) {
                askLine(page, k, 0);
                askLine(page, k, 1);
            }
        }
        for (int e = 0; e <= model.count(2); e++) {
            askPage(e);
            askSign(e, -1, -1);
            for (int l = 0; !Checks.told(lineOf(e, l)).startsWith("I"); l++) {
                for (int i = -1; i <= model.sign(e, l, -1); i++) {
                    askSign(e, l, i);
                }
            }
        }
        for (int f = 0; f < 4; f++) {
            for (int k = 0; k <= 8; k++) {
                askIndex(f, k);
            }
        }
    }

    private Checks.Call lineOf(int e, int l) {
        return () -> model.sign(e, l, -1);
    }
}
