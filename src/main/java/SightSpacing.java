/** Letters spaced by sight, as ../shared/DOC.md promises it; words in capitals are the document's. */
public final class SightSpacing {
    public static final int NONE = -1, UNKNOWN = -1000000001, OUTSIDE = -1000000002, NOT = -1000000003, FULL = -1000000004;

    private static final int LETTERS = 8;
    private static final int HEIGHTS = 5;
    private static final int LEFT = 0;
    private static final int RIGHT = 1;

    private static final int LIKE = 0;
    private static final int ODD = 1;
    private static final int CAP = 2;
    private static final int AIM = 3;
    private static final int BY = 4;
    private static final int TERMS = 5;
    private static final int[] LEAST_TERMS = {0, 0, 1, 0, 0};
    private static final int[] MOST_TERMS = {99, 20, 20, 99, 2};

    private static final int[] PLACE_VALUES = {10000, 1000, 100, 10, 1};
    private static final int MOST_EDGE = 99999;
    private static final int MOST_WIDTH = 9;
    private static final int MOST_GAP = 20;
    private static final int UNJUDGED = 1000;

    // Gaps and words may be below 0; these keep what is answered above NONE.
    private static final int GAP_BASE = 100;
    private static final int WORD_BASE = 1000;

    private static final int TEXT_LENGTH = 150;
    private static final int WORD_LENGTH = 5;
    private static final int DEEDS = 16;
    private static final int ENTRIES = 20;
    private static final int IMAGES = 2;
    private static final int MOST_DRIFT = 12;

    private static final int CANNOT_STAND = 1;
    private static final int OUT_OF_BOUNDS = 2;
    private static final int NOT_KNOWN = 3;

    private final State now = new State();
    private final Sight sight = new Sight(now);
    private final Reader reader = new Reader();
    private final Past past = new Past();
    private final Book book = new Book();
    private final State[] images = new State[IMAGES];
    private final int[] imageSeeds = new int[IMAGES];
    private final boolean[] imageKept = new boolean[IMAGES];
    private final int[] wordLetters = new int[WORD_LENGTH];
    private int drawSeed = 0;

    public SightSpacing() {
        for (int i = 0; i < IMAGES; i++) {
            images[i] = new State();
        }
    }

    // ---- told

    public int feed(int letter) {
        if (letter < 0 || letter > 255) {
            return OUTSIDE;
        }
        return reader.take(letter) ? reader.length : FULL;
    }

    public int tell() {
        reader.read(now);
        if (reader.faultNumber != 0) {
            return -10 - reader.faultNumber;
        }
        past.remember(now);
        now.copyFrom(reader.draft);
        return reader.clauses;
    }

    public int fault() {
        return reader.faultPlace;
    }

    public int told(int what) {
        sight.settle();
        switch (what) {
            case 0: return now.known;
            case 1: return sight.lefts.count;
            case 2: return sight.rights.count;
            case 3: return now.countJudged();
            case 4: return sight.countStrange();
            case 5: return sight.size();
            case 6: return sight.misses();
            case 7: case 8: case 9: case 10: case 11: return now.terms[what - 7];
            case 12: return reader.length;
            case 13: return book.count;
            case 14: return book.firstWrong(now, sight);
            case 15: return past.count;
            case 16: return drawSeed;
            default: return OUTSIDE;
        }
    }

    public int edge(int c, int side, int h) {
        if (!now.knows(c)) {
            return UNKNOWN;
        }
        if (!isSide(side) || h < 0 || h >= HEIGHTS) {
            return OUTSIDE;
        }
        return now.figure(c, side, h);
    }

    public int at(int c, int what) {
        if (!now.knows(c)) {
            return UNKNOWN;
        }
        sight.settle();
        switch (what) {
            case 0: return now.widths[c];
            case 1: return sight.lefts.classOf[c];
            case 2: return sight.rights.classOf[c];
            default: return OUTSIDE;
        }
    }

    public int far(int c, int d, int side) {
        if (!now.knowsBoth(c, d)) {
            return UNKNOWN;
        }
        return isSide(side) ? now.apart(c, d, side) : OUTSIDE;
    }

    public int pair(int c, int d, int what) {
        if (!now.knowsBoth(c, d)) {
            return UNKNOWN;
        }
        sight.settle();
        switch (what) {
            case 0: return sight.gapOfPair(c, d) + GAP_BASE;
            case 1: return now.isJudged(c, d) ? now.judgedGap(c, d) + GAP_BASE : NONE;
            case 2: return sight.isStrange(c, d) ? 1 : 0;
            case 3: return now.sightGap(c, d) + GAP_BASE;
            case 4: return now.white(c, d, sight.gapOfPair(c, d));
            default: return OUTSIDE;
        }
    }

    public int cell(int i, int j, int what) {
        sight.settle();
        if (i < 0 || i >= sight.rights.count || j < 0 || j >= sight.lefts.count) {
            return UNKNOWN;
        }
        sight.survey(i, j);
        switch (what) {
            case 0: return sight.pairs;
            case 1: return sight.judged;
            case 2: return sight.kept;
            case 3: return sight.gapOfCell() + GAP_BASE;
            case 4: return sight.meanAbove();
            case 5: return sight.meanBelow();
            default: return OUTSIDE;
        }
    }

    public int line(int l, int k) {
        sight.settle();
        if (l < 0 || l >= sight.size()) {
            return UNKNOWN;
        }
        if (k < 0) {
            return OUTSIDE;
        }
        StringBuilder written = new StringBuilder();
        sight.writeLine(l, written);
        return k < written.length() ? written.charAt(k) : NONE;
    }

    public int word(int n, int a, int b, int c, int d, int e) {
        if (n < 1 || n > WORD_LENGTH) {
            return OUTSIDE;
        }
        wordLetters[0] = a;
        wordLetters[1] = b;
        wordLetters[2] = c;
        wordLetters[3] = d;
        wordLetters[4] = e;
        for (int k = 0; k < n; k++) {
            if (!now.knows(wordLetters[k])) {
                return UNKNOWN;
            }
        }
        sight.settle();
        int wide = WORD_BASE;
        for (int k = 0; k < n; k++) {
            wide += now.widths[wordLetters[k]];
            if (k > 0) {
                wide += sight.gapOfPair(wordLetters[k - 1], wordLetters[k]);
            }
        }
        return wide;
    }

    // ---- deeds

    public int letter(int c, int left, int right, int width) {
        if (c < 0 || c >= LETTERS || !isEdge(left) || !isEdge(right) || width < 1 || width > MOST_WIDTH) {
            return OUTSIDE;
        }
        past.remember(now);
        now.learn(c, left, right, width);
        return now.countKnown();
    }

    public int forget(int c) {
        if (!now.knows(c)) {
            return UNKNOWN;
        }
        past.remember(now);
        now.drop(c);
        return now.countKnown();
    }

    public int judge(int c, int d, int gap) {
        if (!now.knowsBoth(c, d)) {
            return UNKNOWN;
        }
        if (gap < -MOST_GAP || gap > MOST_GAP) {
            return OUTSIDE;
        }
        past.remember(now);
        now.setGap(c, d, gap);
        sight.settle();
        return sight.gapOfPair(c, d) + GAP_BASE;
    }

    public int withdraw(int c, int d) {
        if (!now.knowsBoth(c, d)) {
            return UNKNOWN;
        }
        if (!now.isJudged(c, d)) {
            return NOT;
        }
        past.remember(now);
        int was = now.judgedGap(c, d);
        now.setGap(c, d, UNJUDGED);
        return was + GAP_BASE;
    }

    public int term(int which, int v) {
        if (which < 0 || which >= TERMS || v < LEAST_TERMS[which] || v > MOST_TERMS[which]) {
            return OUTSIDE;
        }
        past.remember(now);
        int was = now.terms[which];
        now.setTerm(which, v);
        return was;
    }

    public int drift(int n) {
        if (n < 1 || n > MOST_DRIFT) {
            return OUTSIDE;
        }
        for (int k = 0; k < n; k++) {
            past.remember(now);
            driftOnce();
        }
        return now.known;
    }

    public int undo(int n) {
        if (n < 1 || n > DEEDS) {
            return OUTSIDE;
        }
        if (n > past.count) {
            return NOT;
        }
        past.bringBack(n, now);
        return now.known;
    }

    // ---- the book

    public int write(int c, int d, int v) {
        if (!now.knowsBoth(c, d)) {
            return UNKNOWN;
        }
        return book.enter(c, d, v) ? book.count : FULL;
    }

    public int tear() {
        int had = book.count;
        book.count = 0;
        return had;
    }

    // ---- images

    public int seed(int v) {
        if (v < 0) {
            return OUTSIDE;
        }
        int was = drawSeed;
        drawSeed = v;
        return was;
    }

    public int keep(int i) {
        if (i < 0 || i >= IMAGES) {
            return UNKNOWN;
        }
        images[i].copyFrom(now);
        imageSeeds[i] = drawSeed;
        imageKept[i] = true;
        past.count = 0;
        return 1;
    }

    public int goBack(int i) {
        if (i < 0 || i >= IMAGES) {
            return UNKNOWN;
        }
        if (!imageKept[i]) {
            return NOT;
        }
        now.copyFrom(images[i]);
        drawSeed = imageSeeds[i];
        past.count = 0;
        return 1;
    }

    private static boolean isSide(int side) {
        return side == LEFT || side == RIGHT;
    }

    private static boolean isEdge(int figures) {
        return figures >= 0 && figures <= MOST_EDGE;
    }

    private void driftOnce() {
        int c = draw(LETTERS);
        if (!now.knows(c)) {
            int left = drawEdge();
            int right = drawEdge();
            now.learn(c, left, right, draw(MOST_WIDTH) + 1);
            return;
        }
        int d = draw(LETTERS);
        int gap = draw(9) - 4;
        if (now.knows(d)) {
            now.setGap(c, d, gap);
        }
    }

    private int drawEdge() {
        int figures = 0;
        for (int h = 0; h < HEIGHTS; h++) {
            figures = 10 * figures + draw(5);
        }
        return figures;
    }

    private int draw(int n) {
        // The wrap-around of int leaves the lower 31 bits as they should be.
        drawSeed = (drawSeed * 1103515245 + 12345) & 0x7fffffff;
        return n > 0 ? drawSeed / 65536 % n : 0;
    }

    /** All of section 1 but THE TEXT, and what follows for pairs of LETTERS from it alone. */
    private static final class State {
        private int known = 0;
        private final int[] edges = new int[2 * LETTERS];
        private final int[] widths = new int[LETTERS];
        private final int[] terms = {4, 2, 9, 30, 0};
        private final int[] gaps = new int[LETTERS * LETTERS];
        // Grows with each change, so that who derives from a state sees that it is another.
        private int version = 0;

        State() {
            for (int k = 0; k < gaps.length; k++) {
                gaps[k] = UNJUDGED;
            }
        }

        void copyFrom(State other) {
            known = other.known;
            System.arraycopy(other.edges, 0, edges, 0, edges.length);
            System.arraycopy(other.widths, 0, widths, 0, widths.length);
            System.arraycopy(other.terms, 0, terms, 0, terms.length);
            System.arraycopy(other.gaps, 0, gaps, 0, gaps.length);
            version++;
        }

        boolean knows(int c) {
            return c >= 0 && c < LETTERS && (known >> c & 1) == 1;
        }

        boolean knowsBoth(int c, int d) {
            return knows(c) && knows(d);
        }

        int countKnown() {
            return Integer.bitCount(known);
        }

        void learn(int c, int left, int right, int width) {
            known |= 1 << c;
            edges[LEFT * LETTERS + c] = left;
            edges[RIGHT * LETTERS + c] = right;
            widths[c] = width;
            version++;
        }

        void drop(int c) {
            known &= ~(1 << c);
            for (int d = 0; d < LETTERS; d++) {
                gaps[c * LETTERS + d] = UNJUDGED;
                gaps[d * LETTERS + c] = UNJUDGED;
            }
            version++;
        }

        void setGap(int c, int d, int gap) {
            gaps[c * LETTERS + d] = gap;
            version++;
        }

        void setTerm(int which, int v) {
            terms[which] = v;
            version++;
        }

        boolean isJudged(int c, int d) {
            return gaps[c * LETTERS + d] != UNJUDGED;
        }

        int judgedGap(int c, int d) {
            return gaps[c * LETTERS + d];
        }

        int countJudged() {
            int count = 0;
            for (int k = 0; k < gaps.length; k++) {
                if (gaps[k] != UNJUDGED) {
                    count++;
                }
            }
            return count;
        }

        int figure(int c, int side, int h) {
            return edges[side * LETTERS + c] / PLACE_VALUES[h] % 10;
        }

        /** FAR of the EDGES of a SIDE of two LETTERS. */
        int apart(int c, int d, int side) {
            int sum = 0;
            int greatest = 0;
            int squares = 0;
            for (int h = 0; h < HEIGHTS; h++) {
                int by = Math.abs(figure(c, side, h) - figure(d, side, h));
                sum += by;
                greatest = Math.max(greatest, by);
                squares += by * by;
            }
            switch (terms[BY]) {
                case 0: return sum;
                case 1: return greatest;
                default: return squares;
            }
        }

        /** WHITE of a pair by a gap. */
        int white(int c, int d, int gap) {
            int together = 0;
            for (int h = 0; h < HEIGHTS; h++) {
                int room = figure(c, RIGHT, h) + figure(d, LEFT, h) + gap;
                together += Math.min(Math.max(room, 0), terms[CAP]);
            }
            return together;
        }

        /** SIGHT of a pair. */
        int sightGap(int c, int d) {
            for (int gap = -MOST_GAP; gap < MOST_GAP; gap++) {
                if (white(c, d, gap) >= terms[AIM]) {
                    return gap;
                }
            }
            return MOST_GAP;
        }
    }

    /** The CLASSES of one SIDE. */
    private static final class Parting {
        private final int[] classOf = new int[LETTERS];
        private int count = 0;
        // SETS: for each LETTER those LIKE it (itself, too; none, if it is not KNOWN); for each CLASS its LETTERS.
        private final int[] likes = new int[LETTERS];
        private final int[] members = new int[LETTERS];

        void part(State state, int side) {
            for (int c = 0; c < LETTERS; c++) {
                likes[c] = state.knows(c) ? likeOnes(state, c, side) : 0;
            }
            for (int most = 0; most <= LETTERS; most++) {
                if (place(this, 0, 0, most)) {
                    return;
                }
            }
        }

        private static int likeOnes(State state, int c, int side) {
            int set = 0;
            for (int d = 0; d < LETTERS; d++) {
                if (state.knows(d) && state.apart(c, d, side) <= state.terms[LIKE]) {
                    set |= 1 << d;
                }
            }
            return set;
        }

        /**
         * Places c and the LETTERS behind it in CLASSES, most in all, where used are in use already.
         * CLASSES of lower numbers are tried first: so the first parting found is the one that is due.
         */
        private static boolean place(Parting to, int c, int used, int most) {
            if (c >= LETTERS) {
                to.count = used;
                return true;
            }
            if (to.likes[c] == 0) {
                to.classOf[c] = NONE;
                return place(to, c + 1, used, most);
            }
            for (int k = 0; k < used; k++) {
                if ((to.members[k] & ~to.likes[c]) == 0) {
                    to.classOf[c] = k;
                    to.members[k] |= 1 << c;
                    if (place(to, c + 1, used, most)) {
                        return true;
                    }
                    to.members[k] &= ~(1 << c);
                }
            }
            if (used >= most) {
                return false;
            }
            to.classOf[c] = used;
            to.members[used] = 1 << c;
            return place(to, c + 1, used + 1, most);
        }
    }

    /** CLASSES, CELLS, GAPS and THE TABLE, as they follow from a state. */
    private static final class Sight {
        private final State state;
        private final Parting lefts = new Parting();
        private final Parting rights = new Parting();
        private int settledVersion = NONE;

        // Of the CELL that was surveyed last.
        private int cellRight = 0;
        private int cellLeft = 0;
        private int pairs = 0;
        private int judged = 0;
        private int kept = 0;
        private int keptSum = 0;
        private int keptLeast = 0;
        // How many pairs of it are JUDGED -20, -19 and so on.
        private final int[] tally = new int[2 * MOST_GAP + 1];

        Sight(State state) {
            this.state = state;
        }

        /** To be called ahead of all else here, once the state may have changed. */
        void settle() {
            if (settledVersion != state.version) {
                lefts.part(state, LEFT);
                rights.part(state, RIGHT);
                settledVersion = state.version;
            }
        }

        void survey(int i, int j) {
            cellRight = i;
            cellLeft = j;
            pairs = 0;
            judged = 0;
            for (int k = 0; k < tally.length; k++) {
                tally[k] = 0;
            }
            for (int c = 0; c < LETTERS; c++) {
                for (int d = 0; d < LETTERS; d++) {
                    if (inCell(c, d)) {
                        pairs++;
                        if (state.isJudged(c, d)) {
                            judged++;
                            tally[state.judgedGap(c, d) + MOST_GAP]++;
                        }
                    }
                }
            }
            chooseKept();
        }

        private boolean inCell(int c, int d) {
            return rights.classOf[c] == cellRight && lefts.classOf[d] == cellLeft;
        }

        /** As many as can be are all within some stretch of twice ODD that begins at a JUDGED gap. */
        private void chooseKept() {
            kept = 0;
            keptSum = 0;
            keptLeast = 0;
            for (int least = -MOST_GAP; least <= MOST_GAP; least++) {
                if (tally[least + MOST_GAP] > 0) {
                    chooseIfMore(least);
                }
            }
        }

        private void chooseIfMore(int least) {
            int most = Math.min(MOST_GAP, least + 2 * state.terms[ODD]);
            int count = 0;
            int sum = 0;
            for (int gap = least; gap <= most; gap++) {
                count += tally[gap + MOST_GAP];
                sum += gap * tally[gap + MOST_GAP];
            }
            if (count > kept) {
                kept = count;
                keptSum = sum;
                keptLeast = least;
            }
        }

        /** How many gaps MEAN of the CELL is made of. */
        private int meanParts() {
            return judged > 0 ? kept : pairs;
        }

        private int meanSum() {
            if (judged > 0) {
                return keptSum;
            }
            int sum = 0;
            for (int c = 0; c < LETTERS; c++) {
                for (int d = 0; d < LETTERS; d++) {
                    if (inCell(c, d)) {
                        sum += state.sightGap(c, d);
                    }
                }
            }
            return sum;
        }

        int gapOfCell() {
            int parts = meanParts();
            // The half that is added makes the greater of two that are as near.
            return parts > 0 ? Math.floorDiv(2 * meanSum() + parts, 2 * parts) : 0;
        }

        int meanAbove() {
            int parts = meanParts();
            int above = meanSum() + GAP_BASE * parts;
            return above / commonDivisor(above, parts);
        }

        int meanBelow() {
            int parts = meanParts();
            return parts / commonDivisor(meanSum() + GAP_BASE * parts, parts);
        }

        private static int commonDivisor(int above, int below) {
            for (int by = below; by > 1; by--) {
                if (above % by == 0 && below % by == 0) {
                    return by;
                }
            }
            return 1;
        }

        boolean isStrange(int c, int d) {
            if (!state.isJudged(c, d)) {
                return false;
            }
            survey(rights.classOf[c], lefts.classOf[d]);
            return isLeftOut(c, d);
        }

        int gapOfPair(int c, int d) {
            survey(rights.classOf[c], lefts.classOf[d]);
            return isLeftOut(c, d) ? state.judgedGap(c, d) : gapOfCell();
        }

        /** Of a pair in the CELL that was surveyed last: whether it is JUDGED, but not KEPT. */
        private boolean isLeftOut(int c, int d) {
            int gap = state.judgedGap(c, d);
            return state.isJudged(c, d) && (gap < keptLeast || gap > keptLeast + 2 * state.terms[ODD]);
        }

        int countStrange() {
            int count = 0;
            for (int c = 0; c < LETTERS; c++) {
                for (int d = 0; d < LETTERS; d++) {
                    if (isStrange(c, d)) {
                        count++;
                    }
                }
            }
            return count;
        }

        int misses() {
            int together = 0;
            for (int c = 0; c < LETTERS; c++) {
                for (int d = 0; d < LETTERS; d++) {
                    if (state.isJudged(c, d)) {
                        together += Math.abs(state.judgedGap(c, d) - gapOfPair(c, d));
                    }
                }
            }
            return together;
        }

        private int countCells() {
            return rights.count * lefts.count;
        }

        int size() {
            return countCells() + countStrange();
        }

        void writeLine(int l, StringBuilder written) {
            if (l >= countCells()) {
                writeStrange(l - countCells(), written);
            } else if (lefts.count > 0) {
                int i = l / lefts.count;
                int j = l % lefts.count;
                survey(i, j);
                written.append(i).append('/').append(j).append(' ').append(gapOfCell());
            }
        }

        private void writeStrange(int ahead, StringBuilder written) {
            int left = ahead;
            for (int c = 0; c < LETTERS; c++) {
                for (int d = 0; d < LETTERS; d++) {
                    if (isStrange(c, d)) {
                        if (left == 0) {
                            written.append((char) ('a' + c)).append((char) ('a' + d));
                            written.append(' ').append(state.judgedGap(c, d));
                        }
                        left--;
                    }
                }
            }
        }
    }

    /** THE TEXT, and how it is read; steps behind a FAULT come to nothing. */
    private static final class Reader {
        private final char[] text = new char[TEXT_LENGTH];
        private int length = 0;
        private int next = 0;
        private int clauses = 0;
        private int faultNumber = 0;
        private int faultPlace = NONE;
        // What becomes of the state by the clauses, apart from it until all of them can stand.
        private final State draft = new State();

        boolean take(int letter) {
            if (length >= TEXT_LENGTH) {
                return false;
            }
            text[length] = (char) letter;
            length++;
            return true;
        }

        void read(State from) {
            draft.copyFrom(from);
            next = 0;
            clauses = 0;
            faultNumber = 0;
            faultPlace = NONE;
            for (int n = 0; n < length; n++) {
                skipBlanks();
                if (next >= length || faultNumber != 0) {
                    break;
                }
                readClause();
                clauses++;
            }
            length = 0;
        }

        private void readClause() {
            int start = next;
            int size = passWord();
            if (size == 1 && isLetter(start)) {
                readLetter(text[start] - 'a');
            } else if (size == 2 && isLetter(start) && isLetter(start + 1)) {
                readPair(start);
            } else if (isWord(start, size, "like")) {
                readTerm(LIKE);
            } else if (isWord(start, size, "odd")) {
                readTerm(ODD);
            } else if (isWord(start, size, "cap")) {
                readTerm(CAP);
            } else if (isWord(start, size, "aim")) {
                readTerm(AIM);
            } else if (isWord(start, size, "by")) {
                readBy();
            } else {
                fail(CANNOT_STAND, start);
            }
        }

        private void readLetter(int c) {
            int left = readEdge();
            pass('/');
            int right = readEdge();
            pass(',');
            int width = readWidth();
            pass(';');
            if (faultNumber == 0) {
                draft.learn(c, left, right, width);
            }
        }

        private void readPair(int start) {
            int c = text[start] - 'a';
            int d = text[start + 1] - 'a';
            if (!draft.knowsBoth(c, d)) {
                fail(NOT_KNOWN, start);
            }
            pass(':');
            boolean below = passMinus();
            int gap = readNumber(0, MOST_GAP);
            pass(';');
            if (faultNumber == 0) {
                draft.setGap(c, d, below ? -gap : gap);
            }
        }

        private void readTerm(int which) {
            int v = readNumber(LEAST_TERMS[which], MOST_TERMS[which]);
            pass(';');
            if (faultNumber == 0) {
                draft.setTerm(which, v);
            }
        }

        private void readBy() {
            skipBlanks();
            int start = next;
            int size = passWord();
            int v = 0;
            if (isWord(start, size, "most")) {
                v = 1;
            } else if (isWord(start, size, "square")) {
                v = 2;
            } else if (!isWord(start, size, "sum")) {
                fail(CANNOT_STAND, start);
            }
            pass(';');
            if (faultNumber == 0) {
                draft.setTerm(BY, v);
            }
        }

        private int readEdge() {
            skipBlanks();
            int figures = 0;
            for (int h = 0; h < HEIGHTS && faultNumber == 0; h++) {
                if (isFigure(next)) {
                    figures = 10 * figures + text[next] - '0';
                    next++;
                } else {
                    fail(CANNOT_STAND, next);
                }
            }
            return figures;
        }

        private int readWidth() {
            skipBlanks();
            if (!isFigure(next) || text[next] == '0') {
                fail(CANNOT_STAND, next);
                return 0;
            }
            int width = text[next] - '0';
            next++;
            return width;
        }

        private int readNumber(int least, int most) {
            skipBlanks();
            int start = next;
            int v = 0;
            for (int n = 0; n < 3 && isFigure(next); n++) {
                v = 10 * v + text[next] - '0';
                next++;
            }
            if (next == start) {
                fail(CANNOT_STAND, start);
            } else if (next - start > 2 || v < least || v > most) {
                fail(OUT_OF_BOUNDS, start);
            }
            return v;
        }

        private void pass(int sign) {
            skipBlanks();
            if (next < length && text[next] == sign) {
                next++;
            } else {
                fail(CANNOT_STAND, next);
            }
        }

        private boolean passMinus() {
            skipBlanks();
            if (next < length && text[next] == '-') {
                next++;
                return true;
            }
            return false;
        }

        /** How many letters 'a' to 'z' are side by side from here on. */
        private int passWord() {
            int start = next;
            while (next < length && text[next] >= 'a' && text[next] <= 'z') {
                next++;
            }
            return next - start;
        }

        private void skipBlanks() {
            while (next < length && text[next] == ' ') {
                next++;
            }
        }

        private boolean isLetter(int place) {
            return place < length && text[place] >= 'a' && text[place] < 'a' + LETTERS;
        }

        private boolean isFigure(int place) {
            return place < length && text[place] >= '0' && text[place] <= '9';
        }

        private boolean isWord(int start, int size, String word) {
            if (size != word.length()) {
                return false;
            }
            for (int k = 0; k < size; k++) {
                if (text[start + k] != word.charAt(k)) {
                    return false;
                }
            }
            return true;
        }

        /** Reading goes from left to right: the first FAULT that is met is the one that counts. */
        private void fail(int number, int place) {
            if (faultNumber == 0) {
                faultNumber = number;
                faultPlace = place;
            }
        }
    }

    /** States ahead of the latest deeds; a ring, in which the oldest gives way. */
    private static final class Past {
        private final State[] states = new State[DEEDS];
        private int first = 0;
        private int count = 0;

        Past() {
            for (int k = 0; k < DEEDS; k++) {
                states[k] = new State();
            }
        }

        void remember(State state) {
            if (count >= DEEDS) {
                first = (first + 1) % DEEDS;
                count = DEEDS - 1;
            }
            states[(first + count) % DEEDS].copyFrom(state);
            count++;
        }

        void bringBack(int n, State state) {
            count -= n;
            state.copyFrom(states[(first + count) % DEEDS]);
        }
    }

    /** THE BOOK. */
    private static final class Book {
        private final int[] firsts = new int[ENTRIES];
        private final int[] seconds = new int[ENTRIES];
        private final int[] gaps = new int[ENTRIES];
        private int count = 0;

        boolean enter(int c, int d, int gap) {
            if (count >= ENTRIES) {
                return false;
            }
            firsts[count] = c;
            seconds[count] = d;
            gaps[count] = gap;
            count++;
            return true;
        }

        int firstWrong(State state, Sight sight) {
            for (int k = 0; k < count; k++) {
                if (!state.knowsBoth(firsts[k], seconds[k])
                        || sight.gapOfPair(firsts[k], seconds[k]) != gaps[k]) {
                    return k;
                }
            }
            return NONE;
        }
    }
}
