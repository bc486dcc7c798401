/**
 * A catalogue set in pages. The numbered promises that its methods keep stand in the
 * project's document (../shared/DOC.md).
 */
public final class CatalogueSet {
    public static final int NONE = -1;

    private static final int WIDTH_LEAST = 6;
    private static final int WIDTH_MOST = 40;
    private static final int HEIGHT_LEAST = 3;
    private static final int HEIGHT_MOST = 30;

    private static final int PAD_MOST = 32;
    private static final int SIGN_LEAST = 32;
    private static final int SIGN_MOST = 126;
    private static final int BYTES_OF_INT = 4;

    private static final int TEMPLATES_MOST = 6;
    private static final int MARKS_MOST = 6;
    private static final int ENTRIES_MOST = 8;
    private static final int FIELDS = 4;
    private static final int CLAIMS = 4;
    private static final int PICTURE_MOST = 30;
    private static final int LETTERS = 26;
    private static final int PASSES_MOST = 5;
    private static final int ABOUT_MOST = 4;
    private static final int COUNT_MOST = 2;

    // Six marks of two signs become at most a whole pad each; the other signs stay.
    private static final int PRINTED_MOST = MARKS_MOST * PAD_MOST + PAD_MOST - 2 * MARKS_MOST;
    private static final int WORDS_MOST = (PRINTED_MOST + 1) / 2;
    private static final int UNITS_MOST = ENTRIES_MOST * WORDS_MOST;
    // No row leaves as much as the greatest width, which is above the greatest height.
    private static final int SQUARES_BEYOND = UNITS_MOST * WIDTH_MOST * WIDTH_MOST;

    private static final int UNSOURCED = -1;
    private static final int UNSETTABLE = -101;

    private final int height;
    private final Signs pad;
    private final Signs letterOrder;
    private final Signs[] templates;
    private final Entry[] entries;
    private final Press press;
    private int templatesMade;
    private int entriesMade;
    private boolean hasSet;
    private Setting latest;
    private Setting spare;

    public CatalogueSet(int width, int height) {
        this.height = Math.max(HEIGHT_LEAST, Math.min(HEIGHT_MOST, height));
        pad = new Signs(PAD_MOST);
        letterOrder = new Signs(LETTERS);
        templates = new Signs[TEMPLATES_MOST];
        for (int t = 0; t < TEMPLATES_MOST; t++) {
            templates[t] = new Signs(PAD_MOST);
        }
        entries = new Entry[ENTRIES_MOST];
        for (int e = 0; e < ENTRIES_MOST; e++) {
            entries[e] = new Entry();
        }
        press = new Press(Math.max(WIDTH_LEAST, Math.min(WIDTH_MOST, width)), this.height);
        latest = new Setting();
        spare = new Setting();
    }

    public int unit(int a, int b) throws IllegalStateException, IllegalArgumentException {
        if (pad.size() + signsIn(a) + signsIn(b) > PAD_MOST) {
            throw new IllegalStateException("the pad would have more than 32 signs");
        }
        if (!hasGoodSigns(a) || !hasGoodSigns(b)) {
            throw new IllegalArgumentException("a sign is not 32 .. 126");
        }
        addSignsOf(a);
        addSignsOf(b);
        return pad.size();
    }

    public int template() throws IllegalStateException {
        if (templatesMade >= TEMPLATES_MOST) {
            throw new IllegalStateException("there are six templates");
        }
        int wrong = firstWrongPlace(pad);
        if (wrong != NONE) {
            pad.clear();
            return -1 - wrong;
        }
        movePadTo(templates[templatesMade]);
        templatesMade++;
        return templatesMade - 1;
    }

    public int entry(int template) throws IndexOutOfBoundsException, IllegalStateException {
        if (template < 0 || template >= templatesMade) {
            throw new IndexOutOfBoundsException("no such template");
        }
        if (entriesMade >= ENTRIES_MOST) {
            throw new IllegalStateException("there are eight entries");
        }
        entries[entriesMade].useTemplate(templates[template]);
        entriesMade++;
        return entriesMade - 1;
    }

    public int field(int entry, int f) throws IndexOutOfBoundsException, IllegalArgumentException {
        if (!isEntry(entry) || !isField(f)) {
            throw new IndexOutOfBoundsException("no such entry or field");
        }
        if (!isFieldText(pad)) {
            throw new IllegalArgumentException("the pad is no field's text");
        }
        return movePadTo(entries[entry].textOf(f));
    }

    public int claim(int entry, int c, int source) throws IndexOutOfBoundsException, IllegalArgumentException {
        if (!isEntry(entry) || c < 0 || c >= CLAIMS) {
            throw new IndexOutOfBoundsException("no such entry or claim");
        }
        if (source != NONE && source != 0 && source != 1) {
            throw new IllegalArgumentException("a source is 1, 0 or NONE");
        }
        return entries[entry].tellClaim(c, source);
    }

    public int picture(int entry, int h) throws IndexOutOfBoundsException, IllegalArgumentException {
        if (!isEntry(entry)) {
            throw new IndexOutOfBoundsException("no such entry");
        }
        if (h < 0 || h > PICTURE_MOST) {
            throw new IllegalArgumentException("a picture is 0 .. 30 lines high");
        }
        return entries[entry].changePicture(h);
    }

    public int order() throws IllegalArgumentException {
        if (!isOrder(pad)) {
            throw new IllegalArgumentException("the pad is no order of letters");
        }
        return movePadTo(letterOrder);
    }

    public int run() {
        int unsourced = firstUnsourced();
        if (unsourced != NONE) {
            return UNSOURCED - unsourced;
        }
        // The spare one is written, so that a refused run leaves the latest as it is.
        int unsettable = press.setAll(entries, entriesMade, spare);
        if (unsettable != NONE) {
            return UNSETTABLE - unsettable;
        }
        Setting before = latest;
        latest = spare;
        spare = before;
        hasSet = true;
        return latest.pages();
    }

    public int about(int what) throws IndexOutOfBoundsException, IllegalStateException {
        if (what < 0 || what > ABOUT_MOST) {
            throw new IndexOutOfBoundsException("nothing such is told about a run");
        }
        if (!hasSet) {
            throw new IllegalStateException("nothing was set");
        }
        return latest.figure(what);
    }

    public int page(int entry) throws IndexOutOfBoundsException, IllegalStateException {
        if (!isEntry(entry)) {
            throw new IndexOutOfBoundsException("no such entry");
        }
        if (!hasSet) {
            throw new IllegalStateException("nothing was set");
        }
        if (!latest.holdsEntry(entry)) {
            throw new IndexOutOfBoundsException("the entry was not there then");
        }
        int first = latest.pageOf(entry);
        return first == 0 ? NONE : first;
    }

    public int line(int page, int k, int what) throws IndexOutOfBoundsException, IllegalStateException {
        // What no run could have is told before it is asked whether there was one.
        if (page < 1 || k < 0 || k >= height || what < 0 || what > 1) {
            throw new IndexOutOfBoundsException("no such page, line or answer");
        }
        if (!hasSet) {
            throw new IllegalStateException("nothing was set");
        }
        if (page > latest.pages()) {
            throw new IndexOutOfBoundsException("no such page");
        }
        return latest.onPage(page, k, what == 0);
    }

    public int sign(int entry, int l, int i) throws IndexOutOfBoundsException, IllegalStateException {
        if (!isEntry(entry) || l < -1 || i < -1 || (l == -1 && i != -1)) {
            throw new IndexOutOfBoundsException("no such entry, line or place");
        }
        if (!hasSet) {
            throw new IllegalStateException("nothing was set");
        }
        if (!latest.holdsPlace(entry, l, i)) {
            throw new IndexOutOfBoundsException("no such entry, line or place then");
        }
        Block block = latest.blockOf(entry);
        if (l == -1) {
            return block.lines();
        }
        return i == -1 ? block.lengthOf(l) : block.signAt(l, i);
    }

    public int index(int f, int k) throws IndexOutOfBoundsException {
        if (!isField(f) || k < 0) {
            throw new IndexOutOfBoundsException("no such field or place");
        }
        for (int e = 0; e < entriesMade; e++) {
            if (entries[e].textOf(f).size() > 0 && entriesAhead(e, f) == k) {
                return e;
            }
        }
        return NONE;
    }

    public int count(int what) throws IndexOutOfBoundsException {
        if (what < 0 || what > COUNT_MOST) {
            throw new IndexOutOfBoundsException("nothing such is counted");
        }
        if (what == 0) {
            return pad.size();
        }
        return what == 1 ? templatesMade : entriesMade;
    }

    private boolean isEntry(int entry) {
        return entry >= 0 && entry < entriesMade;
    }

    private static boolean isField(int f) {
        return f >= 0 && f < FIELDS;
    }

    private static boolean isLetter(int sign) {
        return sign >= 'a' && sign <= 'z';
    }

    private static int byteOf(int word, int place) {
        return (word >>> (8 * place)) & 255;
    }

    private static int signsIn(int word) {
        int signs = 0;
        for (int place = 0; place < BYTES_OF_INT; place++) {
            if (byteOf(word, place) != 0) {
                signs++;
            }
        }
        return signs;
    }

    private static boolean hasGoodSigns(int word) {
        for (int place = 0; place < BYTES_OF_INT; place++) {
            int sign = byteOf(word, place);
            if (sign != 0 && (sign < SIGN_LEAST || sign > SIGN_MOST)) {
                return false;
            }
        }
        return true;
    }

    private void addSignsOf(int word) {
        for (int place = 0; place < BYTES_OF_INT; place++) {
            int sign = byteOf(word, place);
            if (sign != 0) {
                pad.add(sign);
            }
        }
    }

    private int movePadTo(Signs target) {
        target.clear();
        target.addAll(pad);
        pad.clear();
        return target.size();
    }

    /** NONE if the text is a template; its length if only its end is wrong. */
    private static int firstWrongPlace(Signs text) {
        boolean inPart = false;
        int marks = 0;
        int greatestDigit = 0;
        for (int i = 0; i < text.size(); i++) {
            int sign = text.at(i);
            if (greatestDigit != 0) {
                if (sign < '0' || sign > greatestDigit) {
                    return i;
                }
                greatestDigit = 0;
            } else if (sign == '#' || sign == '@') {
                if (marks == MARKS_MOST) {
                    return i;
                }
                marks++;
                greatestDigit = sign == '#' ? '0' + FIELDS - 1 : '0' + ENTRIES_MOST - 1;
            } else if (sign == '[' || sign == ']') {
                if (inPart == (sign == '[')) {
                    return i;
                }
                inPart = !inPart;
            } else if (sign != ' ' && !isLetter(sign)) {
                return i;
            }
        }
        return inPart || greatestDigit != 0 ? text.size() : NONE;
    }

    private static boolean isFieldText(Signs text) {
        for (int i = 0; i < text.size(); i++) {
            int sign = text.at(i);
            if (sign != ' ' && !isLetter(sign)) {
                return false;
            }
        }
        return true;
    }

    private static boolean isOrder(Signs text) {
        for (int i = 0; i < text.size(); i++) {
            if (!isLetter(text.at(i)) || text.placeOf(text.at(i)) != i) {
                return false;
            }
        }
        return true;
    }

    private int firstUnsourced() {
        for (int e = 0; e < entriesMade; e++) {
            if (entries[e].hasUnsourcedClaim()) {
                return e;
            }
        }
        return NONE;
    }

    private int entriesAhead(int entry, int f) {
        Signs text = entries[entry].textOf(f);
        int ahead = 0;
        for (int e = 0; e < entriesMade; e++) {
            Signs other = entries[e].textOf(f);
            if (e != entry && other.size() > 0) {
                int way = compareTexts(other, text);
                if (way < 0 || (way == 0 && e < entry)) {
                    ahead++;
                }
            }
        }
        return ahead;
    }

    private int compareTexts(Signs a, Signs b) {
        int common = Math.min(a.size(), b.size());
        for (int i = 0; i < common; i++) {
            int way = rankOf(a.at(i)) - rankOf(b.at(i));
            if (way != 0) {
                return way;
            }
        }
        return a.size() - b.size();
    }

    private int rankOf(int sign) {
        if (sign == ' ') {
            return 0;
        }
        int place = letterOrder.placeOf(sign);
        return place == NONE ? 1 + LETTERS + sign : 1 + place;
    }

    /** A row of signs up to a length that is given once. */
    private static final class Signs {
        private final char[] row;
        private int size;

        Signs(int most) {
            row = new char[Math.max(0, most)];
        }

        int size() {
            return size;
        }

        /** 0, which is no sign, for a place outside the row. */
        int at(int place) {
            return place >= 0 && place < size ? row[place] : 0;
        }

        int placeOf(int sign) {
            for (int i = 0; i < size; i++) {
                if (row[i] == sign) {
                    return i;
                }
            }
            return NONE;
        }

        void clear() {
            size = 0;
        }

        void add(int sign) {
            if (size < row.length) {
                row[size] = (char) sign;
                size++;
            }
        }

        void addAll(Signs other) {
            int signs = other.size();
            for (int i = 0; i < signs; i++) {
                add(other.at(i));
            }
        }
    }

    /** What is told of an entry. */
    private static final class Entry {
        private final Signs[] texts = new Signs[FIELDS];
        private final int[] claims = new int[CLAIMS];
        private Signs model = new Signs(0);
        private int pictureHeight;

        Entry() {
            for (int f = 0; f < FIELDS; f++) {
                texts[f] = new Signs(PAD_MOST);
            }
            for (int c = 0; c < CLAIMS; c++) {
                claims[c] = NONE;
            }
        }

        void useTemplate(Signs template) {
            model = template;
        }

        Signs textOf(int f) {
            return texts[f < 0 || f >= FIELDS ? 0 : f];
        }

        int tellClaim(int c, int source) {
            if (c < 0 || c >= CLAIMS) {
                return NONE;
            }
            int before = claims[c];
            claims[c] = source;
            return before;
        }

        boolean hasUnsourcedClaim() {
            for (int c = 0; c < CLAIMS; c++) {
                if (claims[c] == 0) {
                    return true;
                }
            }
            return false;
        }

        int changePicture(int h) {
            int before = pictureHeight;
            pictureHeight = h;
            return before;
        }

        int pictureHeight() {
            return pictureHeight;
        }

        void printTo(Signs out, int[] pages) {
            out.clear();
            int i = 0;
            while (i < model.size()) {
                int sign = model.at(i);
                if (sign == '[' && !isPartWhole(i)) {
                    i = partEnd(i);
                } else if (sign == '#' || sign == '@') {
                    i++;
                    printMark(out, sign, model.at(i) - '0', pages);
                } else if (sign != '[' && sign != ']') {
                    out.add(sign);
                }
                i++;
            }
        }

        private static void printNumber(Signs out, int number) {
            // There are at most as many pages as units, so three digits are enough.
            if (number >= 100) {
                out.add('0' + number / 100 % 10);
            }
            if (number >= 10) {
                out.add('0' + number / 10 % 10);
            }
            out.add('0' + number % 10);
        }

        private void printMark(Signs out, int mark, int digit, int[] pages) {
            if (mark == '#') {
                out.addAll(textOf(digit));
            } else if (digit >= 0 && digit < pages.length) {
                printNumber(out, pages[digit]);
            }
        }

        private int partEnd(int start) {
            for (int i = start; i < model.size(); i++) {
                if (model.at(i) == ']') {
                    return i;
                }
            }
            return model.size();
        }

        private boolean isPartWhole(int start) {
            int end = partEnd(start);
            for (int i = start; i < end; i++) {
                if (model.at(i) == '#' && textOf(model.at(i + 1) - '0').size() == 0) {
                    return false;
                }
            }
            return true;
        }
    }

    /**
     * Items in their order put into rows of equal room, so that the squares of what is left
     * in all rows but the last are least: words into lines, and units onto pages.
     */
    private static final class Filling {
        private final int[] sizes = new int[UNITS_MOST];
        private final int[] least = new int[UNITS_MOST + 1];
        private final int[] ends = new int[UNITS_MOST];
        private int items;
        private int room;
        private int gap;

        void start(int room, int gap) {
            this.room = room;
            this.gap = gap;
            items = 0;
        }

        void add(int size) {
            if (items < UNITS_MOST) {
                sizes[items] = size;
                items++;
            }
        }

        int items() {
            return items;
        }

        int sizeOf(int item) {
            return item >= 0 && item < items ? sizes[item] : 0;
        }

        boolean hasRoomForEach() {
            for (int i = 0; i < items; i++) {
                if (sizes[i] > room) {
                    return false;
                }
            }
            return true;
        }

        /** The item behind the row that begins with this one. */
        int endOfRow(int first) {
            return first >= 0 && first < items ? ends[first] : items;
        }

        int leastSquares() {
            return least[0];
        }

        void solve() {
            least[items] = 0;
            for (int first = items - 1; first >= 0; first--) {
                solveFrom(first);
            }
        }

        // Shorter first rows are tried first and only a smaller sum displaces them: so of
        // equal ways the one with the fewest items in the first row, and so on, stays.
        private void solveFrom(int first) {
            least[first] = SQUARES_BEYOND;
            ends[first] = first + 1;
            int filled = sizes[first];
            for (int end = first + 1; end <= items && filled <= room; end++) {
                int left = room - filled;
                int squares = end == items ? 0 : left * left + least[end];
                if (squares < least[first]) {
                    least[first] = squares;
                    ends[first] = end;
                }
                filled += gap + sizeOf(end);
            }
        }
    }

    /** An entry as it is set: its picture's height and its lines. */
    private static final class Block {
        // All words with one " " between them: a line is a piece of it, as no line has more.
        private final Signs text = new Signs(PRINTED_MOST);
        private final int[] starts = new int[WORDS_MOST + 1];
        private int lines;
        private int pictureHeight;

        int lines() {
            return lines;
        }

        int lengthOf(int l) {
            return l >= 0 && l < lines ? starts[l + 1] - 1 - starts[l] : 0;
        }

        int signAt(int l, int i) {
            return i >= 0 && i < lengthOf(l) ? text.at(starts[l] + i) : 0;
        }

        /** Whether all words are within the width; if not, there are no lines. */
        boolean breakLines(Signs printed, int width, Filling words) {
            lines = 0;
            words.start(width, 1);
            takeWords(printed, words);
            if (!words.hasRoomForEach()) {
                return false;
            }
            words.solve();
            markLines(words);
            return true;
        }

        void takePicture(int h) {
            pictureHeight = h;
        }

        int units() {
            if (lines == 0) {
                return pictureHeight > 0 ? 1 : 0;
            }
            return Math.max(1, lines - 1);
        }

        int heightOfUnit(int u) {
            return u == 0 ? pictureHeight + Math.min(2, lines) : 1;
        }

        /** Which line a row of a unit is; NONE for one of the picture. */
        int lineOfRow(int u, int row) {
            if (u > 0) {
                return u + 1;
            }
            return row < pictureHeight ? NONE : row - pictureHeight;
        }

        private void takeWords(Signs printed, Filling words) {
            text.clear();
            int length = 0;
            for (int i = 0; i < printed.size(); i++) {
                int sign = printed.at(i);
                if (sign != ' ') {
                    if (length == 0 && text.size() > 0) {
                        text.add(' ');
                    }
                    text.add(sign);
                    length++;
                } else if (length > 0) {
                    words.add(length);
                    length = 0;
                }
            }
            if (length > 0) {
                words.add(length);
            }
        }

        private void markLines(Filling words) {
            int place = 0;
            int word = 0;
            while (word < words.items() && lines < WORDS_MOST) {
                starts[lines] = place;
                lines++;
                int end = words.endOfRow(word);
                for (int w = word; w < end; w++) {
                    place += words.sizeOf(w) + 1;
                }
                word = end;
            }
            starts[lines] = place;
        }
    }

    /** All entries as they came out of a pass. */
    private static final class Setting {
        private final Block[] blocks = new Block[ENTRIES_MOST];
        private final int[] firstUnits = new int[ENTRIES_MOST + 1];
        private final int[] pageEnds = new int[UNITS_MOST + 1];
        private final int[] entryPages = new int[ENTRIES_MOST];
        private int held;
        private int pages;
        private int passes;
        private boolean settled;
        private int lineSquares;
        private int pageSquares;

        Setting() {
            for (int e = 0; e < ENTRIES_MOST; e++) {
                blocks[e] = new Block();
            }
        }

        void startPass(int entries, int pass) {
            held = Math.min(entries, ENTRIES_MOST);
            passes = pass;
            lineSquares = 0;
        }

        Block blockOf(int entry) {
            return blocks[entry < 0 || entry >= ENTRIES_MOST ? 0 : entry];
        }

        void addLineSquares(int squares) {
            lineSquares += squares;
        }

        void breakPages(int height, Filling units) {
            units.start(height, 0);
            for (int e = 0; e < held; e++) {
                firstUnits[e] = units.items();
                for (int u = 0; u < blocks[e].units(); u++) {
                    units.add(blocks[e].heightOfUnit(u));
                }
            }
            firstUnits[held] = units.items();
            units.solve();
            pageSquares = units.leastSquares();
            markPages(units);
            findEntryPages();
        }

        /** Whether the entries came on these pages. */
        boolean settle(int[] told) {
            settled = true;
            for (int e = 0; e < held && e < told.length; e++) {
                if (entryPages[e] != told[e]) {
                    settled = false;
                }
            }
            return settled;
        }

        void tellPages(int[] told) {
            for (int e = 0; e < held && e < told.length; e++) {
                told[e] = entryPages[e];
            }
        }

        int pages() {
            return pages;
        }

        int figure(int what) {
            switch (what) {
                case 0:
                    return pages;
                case 1:
                    return passes;
                case 2:
                    return settled ? 1 : 0;
                case 3:
                    return lineSquares;
                default:
                    return pageSquares;
            }
        }

        boolean holdsEntry(int entry) {
            return entry >= 0 && entry < held;
        }

        /** -1 stands for the whole of the lines, or of a line. */
        boolean holdsPlace(int entry, int l, int i) {
            if (!holdsEntry(entry)) {
                return false;
            }
            return l == -1 || (l < blocks[entry].lines() && i < blocks[entry].lengthOf(l));
        }

        /** 0 for an entry without units. */
        int pageOf(int entry) {
            return holdsEntry(entry) ? entryPages[entry] : 0;
        }

        /** The entry in the k-th line of a page, or which of its lines it is. */
        int onPage(int page, int k, boolean wantsEntry) {
            if (page < 1 || page > pages) {
                return NONE;
            }
            int row = k;
            for (int u = pageEnds[page - 1]; u < pageEnds[page]; u++) {
                int e = entryOfUnit(u);
                int own = u - firstUnits[e];
                int rows = blocks[e].heightOfUnit(own);
                if (row < rows) {
                    return wantsEntry ? e : blocks[e].lineOfRow(own, row);
                }
                row -= rows;
            }
            return NONE;
        }

        private int entryOfUnit(int u) {
            for (int e = 0; e < held; e++) {
                if (u < firstUnits[e + 1]) {
                    return e;
                }
            }
            return 0;
        }

        private void markPages(Filling units) {
            pages = 0;
            int u = 0;
            while (u < units.items() && pages < UNITS_MOST) {
                u = units.endOfRow(u);
                pages++;
                pageEnds[pages] = u;
            }
        }

        private void findEntryPages() {
            for (int e = 0; e < held; e++) {
                entryPages[e] = blocks[e].units() == 0 ? 0 : pageOfUnit(firstUnits[e]);
            }
        }

        private int pageOfUnit(int u) {
            for (int p = 1; p <= pages; p++) {
                if (u < pageEnds[p]) {
                    return p;
                }
            }
            return 0;
        }
    }

    /** Sets entries in passes on pages of one size; its rows serve all runs. */
    private static final class Press {
        private final int width;
        private final int height;
        private final Signs printed = new Signs(PRINTED_MOST);
        private final Filling filling = new Filling();
        private final int[] told = new int[ENTRIES_MOST];

        Press(int width, int height) {
            this.width = width;
            this.height = height;
        }

        /** NONE, or the first entry that can't be set. */
        int setAll(Entry[] entries, int made, Setting into) {
            for (int e = 0; e < ENTRIES_MOST; e++) {
                told[e] = 0;
            }
            for (int pass = 1; pass <= PASSES_MOST; pass++) {
                into.startPass(made, pass);
                int unsettable = setLines(entries, made, into);
                if (unsettable != NONE) {
                    return unsettable;
                }
                into.breakPages(height, filling);
                if (into.settle(told)) {
                    return NONE;
                }
                into.tellPages(told);
            }
            return NONE;
        }

        private int setLines(Entry[] entries, int made, Setting into) {
            for (int e = 0; e < made && e < entries.length; e++) {
                Block block = into.blockOf(e);
                entries[e].printTo(printed, told);
                block.takePicture(entries[e].pictureHeight());
                if (!block.breakLines(printed, width, filling) || block.heightOfUnit(0) > height) {
                    return e;
                }
                into.addLineSquares(filling.leastSquares());
            }
            return NONE;
        }
    }
}
