/** What each promise of ../shared/DOC.md asks: ordinary inputs, the edges that it names, wrong inputs. */
public final class SightSpacingPromises {
    private static final int NONE = -1;
    private static final int UNKNOWN = -1000000001;
    private static final int OUTSIDE = -1000000002;
    private static final int NOT = -1000000003;
    private static final int FULL = -1000000004;

    private static int wrong = 0;
    private static int asked = 0;

    private static void due(int promise, String call, int got, int want) {
        asked++;
        if (got != want) {
            wrong++;
            System.out.println("promise " + promise + ": " + call + " answered " + got + ", due is " + want);
        }
    }

    private static void give(SightSpacing x, String text) {
        for (int k = 0; k < text.length(); k++) {
            x.feed(text.charAt(k));
        }
    }

    private static int tell(SightSpacing x, String text) {
        give(x, text);
        return x.tell();
    }

    /** LETTERS 0, 1 and so on, each with uniform EDGES of the figures that are given. */
    private static SightSpacing uniform(String lefts, String rights) {
        SightSpacing x = new SightSpacing();
        for (int c = 0; c < lefts.length(); c++) {
            x.letter(c, 11111 * (lefts.charAt(c) - '0'), 11111 * (rights.charAt(c) - '0'), 1 + c);
        }
        return x;
    }

    /** All that can be asked of an object, to see whether something changed. */
    private static String all(SightSpacing x) {
        StringBuilder b = new StringBuilder();
        for (int what = 0; what <= 16; what++) {
            b.append(x.told(what)).append(' ');
        }
        for (int c = 0; c < 8; c++) {
            for (int k = 0; k < 10; k++) {
                b.append(x.edge(c, k / 5, k % 5)).append(' ');
            }
            b.append(x.at(c, 0)).append(' ');
            for (int d = 0; d < 8; d++) {
                b.append(x.pair(c, d, 1)).append(' ');
            }
        }
        return b.append(x.fault()).toString();
    }

    private static void same(int promise, String call, String before, SightSpacing x) {
        due(promise, call + " leaves all as it was", before.equals(all(x)) ? 1 : 0, 1);
    }

    private static String line(SightSpacing x, int l) {
        StringBuilder b = new StringBuilder();
        for (int k = 0; x.line(l, k) >= 0; k++) {
            b.append((char) x.line(l, k));
        }
        return b.toString();
    }

    private static void dueLine(SightSpacing x, int l, String want) {
        String got = line(x, l);
        due(11, "line " + l + " \"" + got + "\" is \"" + want + "\"", got.equals(want) ? 1 : 0, 1);
    }

    private static void newObject() {
        SightSpacing x = new SightSpacing();
        int[] want = {0, 0, 0, 0, 0, 0, 0, 4, 2, 9, 30, 0, 0, 0, NONE, 0, 0};
        for (int what = 0; what < want.length; what++) {
            due(1, "told(" + what + ")", x.told(what), want[what]);
        }
        for (int c = 0; c < 8; c++) {
            due(1, "at(" + c + ", 0)", x.at(c, 0), UNKNOWN);
        }
        due(1, "fault()", x.fault(), NONE);
        x.letter(0, 0, 0, 1);
        due(1, "told(0) of another", new SightSpacing().told(0), 0);
    }

    private static void feeding() {
        SightSpacing x = new SightSpacing();
        due(2, "feed(-1)", x.feed(-1), OUTSIDE);
        due(2, "feed(256)", x.feed(256), OUTSIDE);
        due(2, "told(12)", x.told(12), 0);
        due(2, "feed(0)", x.feed(0), 1);
        due(2, "feed(255)", x.feed(255), 2);
        for (int k = 3; k <= 150; k++) {
            due(2, "feed(32)", x.feed(32), k);
        }
        due(2, "feed(32) at 150", x.feed(32), FULL);
        due(2, "feed(256) at 150", x.feed(256), OUTSIDE);
        due(2, "told(12)", x.told(12), 150);
        due(2, "told(15)", x.told(15), 0);
        due(2, "tell()", x.tell(), -11);
        due(2, "fault()", x.fault(), 0);
        due(2, "feed(32) behind tell()", x.feed(32), 1);
    }

    private static void goodText(String text, int clauses) {
        SightSpacing x = uniform("11", "23");
        due(3, "tell() of \"" + text + "\"", tell(x, text), clauses);
        due(4, "fault() of \"" + text + "\"", x.fault(), NONE);
        due(3, "told(12) behind it", x.told(12), 0);
        due(3, "told(15) behind it", x.told(15), 3);
    }

    private static void badText(String text, int fault, int place) {
        SightSpacing x = uniform("11", "23");
        String before = all(x).replaceAll("-1$", "");
        due(3, "tell() of \"" + text + "\"", tell(x, text), -10 - fault);
        due(4, "fault() of \"" + text + "\"", x.fault(), place);
        due(3, "all behind \"" + text + "\"", all(x).replaceAll(place + "$", "").equals(before) ? 1 : 0, 1);
    }

    private static void goodTexts() {
        goodText("", 0);
        goodText("    ", 0);
        goodText("a12345/54321,9;", 1);
        goodText("  c 00000 / 99999 , 1 ; ", 1);
        goodText("ab:3;ab:-3;ba:0;", 3);
        goodText(" ab : - 3 ; ", 1);
        goodText("ab:20;ab:-20;ab:07;ab:-0;ab:00;", 5);
        goodText("c00000/99999,1;cc:1;ac:2;ca:3;", 4);
        goodText("like4;like 0;like 99;like 09 ;", 4);
        goodText("odd0;odd 20;cap 1;cap20;aim 0;aim99;", 6);
        goodText("by sum;by most;by   square ;", 3);
    }

    private static void badTextsOfLetters() {
        badText(";", 1, 0);
        badText("a", 1, 1);
        badText("a;", 1, 1);
        badText("A11111/11111,1;", 1, 0);
        badText("\t", 1, 0);
        badText("i11111/11111,1;", 1, 0);
        badText("1", 1, 0);
        badText("a1111 1/11111,1;", 1, 5);
        badText("a11111 1/11111,1;", 1, 7);
        badText("a111111/11111,1;", 1, 6);
        badText("a1111/11111,1;", 1, 5);
        badText("a11b11/11111,1;", 1, 3);
        badText("a11111,1;", 1, 6);
        badText("a11111/1111,1;", 1, 11);
        badText("a11111/111111,1;", 1, 12);
        badText("a11111/11111;", 1, 12);
        badText("a11111/11111,0;", 1, 13);
        badText("a11111/11111,;", 1, 13);
        badText("a11111/11111,12;", 1, 14);
        badText("a11111/11111,-1;", 1, 13);
        badText("a11111/11111,1", 1, 14);
        badText("a11111/11111,1   ", 1, 17);
        badText("a11111/111", 1, 10);
        badText("c11111/11111,1;;", 1, 15);
        badText("c11111/11111,1;$", 1, 15);
    }

    private static void badTextsOfPairs() {
        badText("a b:1;", 1, 2);
        badText("ai:1;", 1, 0);
        badText("ia:1;", 1, 0);
        badText("az:1;", 1, 0);
        badText("aba:1;", 1, 0);
        badText("ab1;", 1, 2);
        badText("ab;", 1, 2);
        badText("ab", 1, 2);
        badText("ab:;", 1, 3);
        badText("ab:-;", 1, 4);
        badText("ab:--1;", 1, 4);
        badText("ab:+1;", 1, 3);
        badText("ab:1 2;", 1, 5);
        badText("ab:1x;", 1, 4);
        badText("ab:1", 1, 4);
        badText("ab:21;", 2, 3);
        badText("ab:-21;", 2, 4);
        badText("ab: - 21;", 2, 6);
        badText("ab:001;", 2, 3);
        badText("ab:1234", 2, 3);
        badText("ac:1;", 3, 0);
        badText("ca:1;", 3, 0);
        badText("  ca:1;", 3, 2);
        badText("ca", 3, 0);
        badText("ca:21;", 3, 0);
        badText("ab:1;ac:1;", 3, 5);
        badText("ab:1 ac:1;", 1, 5);
        badText("cc:1;c11111/11111,1;", 3, 0);
    }

    private static void badTextsOfTerms() {
        badText("lik 4;", 1, 0);
        badText("likes 4;", 1, 0);
        badText("li ke 4;", 1, 0);
        badText("like;", 1, 4);
        badText("like", 1, 4);
        badText("like -4;", 1, 5);
        badText("like 4 5;", 1, 7);
        badText("like x;", 1, 5);
        badText("like 100;", 2, 5);
        badText("like 1000", 2, 5);
        badText("like 7;odd 21;", 2, 11);
        badText("odd 20x;", 1, 6);
        badText("cap 0;", 2, 4);
        badText("cap 00;", 2, 4);
        badText("cap 21;", 2, 4);
        badText("aim 099;", 2, 4);
        badText("bysum;", 1, 0);
        badText("by;", 1, 2);
        badText("by", 1, 2);
        badText("by ", 1, 3);
        badText("by 1;", 1, 3);
        badText("by sums;", 1, 3);
        badText("by su m;", 1, 3);
        badText("by most", 1, 7);
        badText("by most square;", 1, 8);
        badText("mean 3;", 1, 0);
        badText("mike 3;", 1, 0);
        badText("by mostz;", 1, 3);
    }

    /** What stands behind THE TEXT from an earlier one must not be read; nor what there is no room for. */
    private static void textsCutShort() {
        String clauses = "a12345/67890,5; aa : - 12 ; like 34 ; by square ;";
        for (int n = 0; n <= clauses.length(); n++) {
            String start = clauses.substring(0, n);
            SightSpacing x = new SightSpacing();
            int want = tell(x, start);
            int place = x.fault();
            SightSpacing y = new SightSpacing();
            tell(y, "$" + clauses.substring(1));
            due(3, "tell() of \"" + start + "\" behind a longer one", tell(y, start), want);
            due(4, "fault() of \"" + start + "\" behind a longer one", y.fault(), place);
            SightSpacing z = new SightSpacing();
            due(3, "tell() of \"" + start + "\" up to 150", tell(z, " ".repeat(150 - n) + start), want);
            due(4, "fault() of \"" + start + "\" up to 150", z.fault(), place < 0 ? NONE : place + 150 - n);
        }
    }

    private static void telling() {
        goodTexts();
        badTextsOfLetters();
        badTextsOfPairs();
        badTextsOfTerms();
        textsCutShort();
        SightSpacing x = new SightSpacing();
        due(3, "tell()", tell(x, "b12345/67890,7;bb:-5;like 8;odd 3;cap 7;aim 25;by square;"), 7);
        due(3, "told(0)", x.told(0), 2);
        for (int h = 0; h < 5; h++) {
            due(3, "edge(1, 0, " + h + ")", x.edge(1, 0, h), h + 1);
            due(3, "edge(1, 1, " + h + ")", x.edge(1, 1, h), (h + 6) % 10);
        }
        due(3, "at(1, 0)", x.at(1, 0), 7);
        due(3, "pair(1, 1, 1)", x.pair(1, 1, 1), 95);
        int[] terms = {8, 3, 7, 25, 2};
        for (int k = 0; k < 5; k++) {
            due(3, "told(" + (7 + k) + ")", x.told(7 + k), terms[k]);
        }
        due(3, "tell()", tell(x, "b00000/00000,1;by most;"), 2);
        due(3, "pair(1, 1, 1) stays", x.pair(1, 1, 1), 95);
        due(3, "at(1, 0)", x.at(1, 0), 1);
        due(3, "told(11)", x.told(11), 1);
        due(3, "tell()", tell(x, "bb:4;by sum;"), 2);
        due(3, "pair(1, 1, 1)", x.pair(1, 1, 1), 104);
        due(3, "told(11)", x.told(11), 0);
        due(3, "told(15)", x.told(15), 3);
        due(3, "tell() of nothing", x.tell(), 0);
        due(3, "told(15): a deed, too", x.told(15), 4);
        due(3, "tell()", tell(x, "a00000/00000,1;ab:7;"), 2);
        due(3, "pair(0, 1, 1)", x.pair(0, 1, 1), 107);
        due(3, "pair(1, 0, 1)", x.pair(1, 0, 1), NONE);
    }

    private static void faultPlace() {
        SightSpacing x = new SightSpacing();
        due(4, "fault()", x.fault(), NONE);
        due(4, "tell()", tell(x, "odd 3;;"), -11);
        due(4, "fault()", x.fault(), 6);
        give(x, "odd 3;");
        x.letter(0, 0, 0, 1);
        x.keep(0);
        x.goBack(0);
        due(4, "fault() of the latest tell()", x.fault(), 6);
        due(4, "tell()", x.tell(), 1);
        due(4, "fault()", x.fault(), NONE);
        due(4, "tell()", tell(x, "x"), -11);
        due(4, "fault()", x.fault(), 0);
        x.undo(1);
        due(4, "fault() behind undo", x.fault(), 0);
    }

    private static void tolds() {
        SightSpacing x = uniform("0004", "0400");
        due(5, "told(-1)", x.told(-1), OUTSIDE);
        due(5, "told(17)", x.told(17), OUTSIDE);
        due(5, "told(0)", x.told(0), 15);
        due(5, "told(1)", x.told(1), 2);
        due(5, "told(2)", x.told(2), 2);
        due(5, "told(5)", x.told(5), 4);
        x.judge(0, 0, 1);
        x.judge(0, 1, 2);
        x.judge(2, 2, 12);
        x.judge(1, 3, -20);
        due(5, "told(3)", x.told(3), 4);
        due(5, "told(4)", x.told(4), 1);
        due(5, "told(5)", x.told(5), 5);
        due(5, "told(6)", x.told(6), 1);
        x.term(1, 20);
        due(5, "told(4)", x.told(4), 0);
        due(5, "told(6)", x.told(6), 4 + 3 + 7);
        for (int which = 0; which < 5; which++) {
            x.term(which, which == 4 ? 1 : 11 + which);
        }
        int[] terms = {11, 12, 13, 14, 1};
        for (int k = 0; k < 5; k++) {
            due(5, "told(" + (7 + k) + ")", x.told(7 + k), terms[k]);
        }
        give(x, "abc");
        due(5, "told(12)", x.told(12), 3);
        x.write(0, 0, 7);
        due(5, "told(13)", x.told(13), 1);
        due(5, "told(14)", x.told(14), 0);
        due(5, "told(15)", x.told(15), 14);
        x.seed(77);
        due(5, "told(16)", x.told(16), 77);
    }

    private static void edges() {
        SightSpacing x = new SightSpacing();
        x.letter(3, 12345, 9, 1);
        for (int h = 0; h < 5; h++) {
            due(6, "edge(3, 0, " + h + ")", x.edge(3, 0, h), h + 1);
            due(6, "edge(3, 1, " + h + ")", x.edge(3, 1, h), h == 4 ? 9 : 0);
        }
        due(6, "edge(2, 0, 0)", x.edge(2, 0, 0), UNKNOWN);
        due(6, "edge(-1, 0, 0)", x.edge(-1, 0, 0), UNKNOWN);
        due(6, "edge(8, 0, 0)", x.edge(8, 0, 0), UNKNOWN);
        due(6, "edge(35, 0, 0)", x.edge(35, 0, 0), UNKNOWN);
        due(6, "edge(2, 2, 5)", x.edge(2, 2, 5), UNKNOWN);
        due(6, "edge(3, -1, 0)", x.edge(3, -1, 0), OUTSIDE);
        due(6, "edge(3, 2, 0)", x.edge(3, 2, 0), OUTSIDE);
        due(6, "edge(3, 0, -1)", x.edge(3, 0, -1), OUTSIDE);
        due(6, "edge(3, 0, 5)", x.edge(3, 0, 5), OUTSIDE);
    }

    private static void dueClasses(SightSpacing x, int what, int... want) {
        for (int c = 0; c < want.length; c++) {
            due(7, "at(" + c + ", " + what + ")", x.at(c, what), want[c]);
        }
    }

    private static void classes() {
        SightSpacing x = uniform("2406", "0000");
        x.term(4, 1);
        x.term(0, 2);
        // Who takes what fits first would need three: a with b, c alone, d alone.
        dueClasses(x, 1, 0, 1, 0, 1);
        dueClasses(x, 2, 0, 0, 0, 0);
        due(5, "told(1)", x.told(1), 2);
        due(7, "at(0, 0)", x.at(0, 0), 1);
        due(7, "at(3, 0)", x.at(3, 0), 4);
        x.forget(3);
        // Both a with b and a with c make two: b is to be in the lesser one.
        dueClasses(x, 1, 0, 0, 1);
        x.forget(0);
        due(7, "at(1, 1)", x.at(1, 1), 0);
        due(7, "at(2, 1)", x.at(2, 1), 1);
        due(7, "at(0, 0)", x.at(0, 0), UNKNOWN);
        due(7, "at(0, 3)", x.at(0, 3), UNKNOWN);
        due(7, "at(-1, 0)", x.at(-1, 0), UNKNOWN);
        due(7, "at(8, 0)", x.at(8, 0), UNKNOWN);
        due(7, "at(1, -1)", x.at(1, -1), OUTSIDE);
        due(7, "at(1, 3)", x.at(1, 3), OUTSIDE);
        SightSpacing y = uniform("00000000", "02468024");
        y.term(4, 1);
        y.term(0, 1);
        dueClasses(y, 1, 0, 0, 0, 0, 0, 0, 0, 0);
        dueClasses(y, 2, 0, 1, 2, 3, 4, 0, 1, 2);
        y.term(0, 2);
        // Three of the five figures stand alone at most: 0 2, 4 6, 8.
        dueClasses(y, 2, 0, 0, 1, 1, 2, 0, 0, 1);
        classesAnew();
    }

    /** CLASSES are asked again behind each deed that may change them. */
    private static void classesAnew() {
        SightSpacing x = uniform("08", "00");
        due(7, "told(1)", x.told(1), 2);
        x.keep(0);
        x.letter(1, 0, 0, 1);
        due(7, "told(1) behind letter", x.told(1), 1);
        x.undo(1);
        due(7, "told(1) behind undo", x.told(1), 2);
        tell(x, "a88888/00000,1;");
        due(7, "told(1) behind tell", x.told(1), 1);
        x.goBack(0);
        due(7, "told(1) behind goBack", x.told(1), 2);
        x.term(0, 99);
        due(7, "told(1) behind term", x.told(1), 1);
        x.term(0, 0);
        due(7, "told(1) behind term", x.told(1), 2);
        x.forget(0);
        due(7, "told(1) behind forget", x.told(1), 1);
        x.forget(1);
        due(7, "told(1) behind forget", x.told(1), 0);
        x.drift(1);
        due(7, "told(1) behind drift", x.told(1), 1);
    }

    private static void fars() {
        SightSpacing x = new SightSpacing();
        x.letter(0, 0, 98765, 1);
        x.letter(1, 12321, 0, 1);
        int[] lefts = {9, 3, 19};
        int[] rights = {35, 9, 255};
        for (int by = 0; by < 3; by++) {
            x.term(4, by);
            due(8, "far(0, 1, 0) by " + by, x.far(0, 1, 0), lefts[by]);
            due(8, "far(1, 0, 1) by " + by, x.far(1, 0, 1), rights[by]);
            due(8, "far(0, 0, 1) by " + by, x.far(0, 0, 1), 0);
        }
        due(8, "far(0, 2, 0)", x.far(0, 2, 0), UNKNOWN);
        due(8, "far(2, 0, 0)", x.far(2, 0, 0), UNKNOWN);
        due(8, "far(0, 8, 2)", x.far(0, 8, 2), UNKNOWN);
        due(8, "far(0, 1, 2)", x.far(0, 1, 2), OUTSIDE);
        due(8, "far(0, 1, -1)", x.far(0, 1, -1), OUTSIDE);
        // LIKE is LIKE at most: 9 apart are so by 9, not by 8.
        x.term(4, 0);
        x.term(0, 9);
        due(8, "told(1) by 9", x.told(1), 1);
        x.term(0, 8);
        due(8, "told(1) by 8", x.told(1), 2);
    }

    private static void duePair(SightSpacing x, int c, int d, int... want) {
        for (int what = 0; what < want.length; what++) {
            due(9, "pair(" + c + ", " + d + ", " + what + ")", x.pair(c, d, what), want[what]);
        }
    }

    private static void pairs() {
        SightSpacing x = uniform("19", "29");
        duePair(x, 0, 0, 103, NONE, 0, 103, 30);
        duePair(x, 1, 0, 96, NONE, 0, 96, 30);
        x.term(3, 0);
        duePair(x, 0, 0, 80, NONE, 0, 80, 0);
        x.term(3, 5);
        x.term(2, 1);
        duePair(x, 0, 0, 98, NONE, 0, 98, 5);
        x.term(3, 6);
        duePair(x, 0, 0, 120, NONE, 0, 120, 5);
        x.judge(0, 0, -20);
        duePair(x, 0, 0, 80, 80, 0, 120, 0);
        SightSpacing y = uniform("111", "222");
        y.judge(0, 0, 3);
        y.judge(0, 1, 4);
        y.judge(1, 0, 9);
        duePair(y, 0, 0, 104, 103, 0, 103, 35);
        duePair(y, 1, 0, 109, 109, 1, 103, 45);
        duePair(y, 2, 2, 104, NONE, 0, 103, 35);
        y.judge(0, 1, 7);
        y.judge(1, 0, 3);
        // Twice ODD apart and no more: none is STRANGE.
        duePair(y, 0, 1, 104, 107, 0, 103, 35);
        due(9, "told(4)", y.told(4), 0);
        due(9, "pair(0, 3, 0)", y.pair(0, 3, 0), UNKNOWN);
        due(9, "pair(3, 0, 9)", y.pair(3, 0, 9), UNKNOWN);
        due(9, "pair(-1, 0, 0)", y.pair(-1, 0, 0), UNKNOWN);
        due(9, "pair(0, 8, 0)", y.pair(0, 8, 0), UNKNOWN);
        due(9, "pair(0, 0, -1)", y.pair(0, 0, -1), OUTSIDE);
        due(9, "pair(0, 0, 5)", y.pair(0, 0, 5), OUTSIDE);
    }

    /** One CELL of all pairs of three LETTERS, with some of them JUDGED. */
    private static SightSpacing oneCell(int odd, int... gaps) {
        SightSpacing x = uniform("111", "222");
        x.term(1, odd);
        for (int k = 0; k < gaps.length; k++) {
            x.judge(k / 3, k % 3, gaps[k]);
        }
        return x;
    }

    private static void dueCell(SightSpacing x, int i, int j, int... want) {
        for (int what = 0; what < want.length; what++) {
            due(10, "cell(" + i + ", " + j + ", " + what + ")", x.cell(i, j, what), want[what]);
        }
    }

    private static void cells() {
        dueCell(oneCell(1), 0, 0, 9, 0, 0, 103, 103, 1);
        dueCell(oneCell(1, 0, 5), 0, 0, 9, 2, 1, 100, 100, 1);
        dueCell(oneCell(1, 5, 0), 0, 0, 9, 2, 1, 100, 100, 1);
        dueCell(oneCell(1, 5, 0, 6), 0, 0, 9, 3, 2, 106, 211, 2);
        dueCell(oneCell(1, -3, -4), 0, 0, 9, 2, 2, 97, 193, 2);
        dueCell(oneCell(2, 1, 5), 0, 0, 9, 2, 2, 103, 103, 1);
        dueCell(oneCell(2, 1, 6), 0, 0, 9, 2, 1, 101, 101, 1);
        dueCell(oneCell(0, 7, 8, 8, 7, 8), 0, 0, 9, 5, 3, 108, 108, 1);
        dueCell(oneCell(20, -20, 20, 20), 0, 0, 9, 3, 3, 107, 320, 3);
        dueCell(oneCell(20, 0, 0, 1, 1), 0, 0, 9, 4, 4, 101, 201, 2);
        dueCell(oneCell(20, 0, 0, 1), 0, 0, 9, 3, 3, 100, 301, 3);
        dueCell(oneCell(20, -1, 0, 0, -1, 0, 0), 0, 0, 9, 6, 6, 100, 299, 3);
        SightSpacing x = uniform("01911", "07770");
        x.term(0, 0);
        dueCell(x, 0, 0, 2, 0, 0, 106, 106, 1);
        dueCell(x, 1, 1, 9, 0, 0, 98, 98, 1);
        // SIGHTS in one CELL: 6 twice, 5 six times, -1 three times, -2 nine times.
        x.term(0, 35);
        dueCell(x, 0, 0, 20, 0, 0, 101, 2021, 20);
        due(10, "cell(1, 0, 0)", x.cell(1, 0, 0), UNKNOWN);
        due(10, "cell(0, 2, 0)", x.cell(0, 2, 0), UNKNOWN);
        due(10, "cell(-1, 0, 6)", x.cell(-1, 0, 6), UNKNOWN);
        due(10, "cell(0, -1, 0)", x.cell(0, -1, 0), UNKNOWN);
        due(10, "cell(0, 0, -1)", x.cell(0, 0, -1), OUTSIDE);
        due(10, "cell(0, 0, 6)", x.cell(0, 0, 6), OUTSIDE);
    }

    private static void lines() {
        SightSpacing one = oneCell(0, 0, 8, -9, 0, 0, 0, 17);
        String[] few = {"0/0 0", "ab 8", "ac -9", "ca 17"};
        due(11, "told(4)", one.told(4), 3);
        for (int l = 0; l < few.length; l++) {
            dueLine(one, l, few[l]);
        }
        SightSpacing x = uniform("199", "290");
        x.judge(0, 1, -3);
        x.judge(0, 2, -20);
        x.judge(1, 0, 20);
        x.judge(2, 1, 0);
        x.judge(2, 2, 12);
        due(11, "told(5)", x.told(5), 8);
        String[] want = {"0/0 3", "0/1 -20", "1/0 20", "1/1 -12", "2/0 5", "2/1 0", "ab -3", "cc 12"};
        for (int l = 0; l < want.length; l++) {
            dueLine(x, l, want[l]);
        }
        due(11, "line(8, 0)", x.line(8, 0), UNKNOWN);
        due(11, "line(-1, 0)", x.line(-1, 0), UNKNOWN);
        due(11, "line(8, -1)", x.line(8, -1), UNKNOWN);
        due(11, "line(7, -1)", x.line(7, -1), OUTSIDE);
        due(11, "line(0, 4)", x.line(0, 4), '3');
        due(11, "line(0, 5)", x.line(0, 5), NONE);
        due(11, "line(0, 2147483647)", x.line(0, 2147483647), NONE);
        due(11, "line(6, 5)", x.line(6, 5), NONE);
    }

    private static void words() {
        SightSpacing x = uniform("19", "29");
        // GAPS: aa 3, ab -5, ba -4, bb -12; WIDTHS 1, 2.
        due(12, "word(1, 1, ..)", x.word(1, 1, 9, 9, 9, 9), 1002);
        due(12, "word(2, 0, 1, ..)", x.word(2, 0, 1, -1, 8, 9), 1003 - 5);
        due(12, "word(3, 1, 1, 0, ..)", x.word(3, 1, 1, 0, 2, 2), 1005 - 16);
        due(12, "word(4, 0, 0, 0, 1, ..)", x.word(4, 0, 0, 0, 1, 5), 1005 + 1);
        due(12, "word(5, ..)", x.word(5, 1, 1, 1, 1, 1), 1010 - 48);
        x.judge(0, 1, 20);
        due(12, "word(2, 0, 1, ..)", x.word(2, 0, 1, 9, 9, 9), 1023);
        due(12, "word(0, ..)", x.word(0, 9, 9, 9, 9, 9), OUTSIDE);
        due(12, "word(6, ..)", x.word(6, 9, 9, 9, 9, 9), OUTSIDE);
        for (int k = 0; k < 5; k++) {
            int[] at = {0, 0, 0, 0, 0};
            at[k] = 2;
            for (int n = 1; n <= 5; n++) {
                int got = x.word(n, at[0], at[1], at[2], at[3], at[4]);
                due(12, "word(" + n + ", ..) with 2 at " + k, got, n > k ? UNKNOWN : 1000 + n + 3 * (n - 1));
            }
        }
    }

    private static void lettersMade() {
        SightSpacing x = new SightSpacing();
        due(13, "letter(7, 99999, 0, 9)", x.letter(7, 99999, 0, 9), 1);
        due(13, "letter(0, 1, 20000, 1)", x.letter(0, 1, 20000, 1), 2);
        due(13, "told(0)", x.told(0), 129);
        due(13, "edge(0, 0, 4)", x.edge(0, 0, 4), 1);
        due(13, "edge(0, 1, 0)", x.edge(0, 1, 0), 2);
        x.judge(0, 7, 5);
        due(13, "letter(0, ..) again", x.letter(0, 0, 0, 2), 2);
        due(13, "pair(0, 7, 1) stays", x.pair(0, 7, 1), 105);
        due(13, "at(0, 0)", x.at(0, 0), 2);
        due(13, "edge(0, 0, 4)", x.edge(0, 0, 4), 0);
        due(13, "told(15)", x.told(15), 4);
        String before = all(x);
        int[][] bad = {{-1, 0, 0, 1}, {8, 0, 0, 1}, {0, -1, 0, 1}, {0, 100000, 0, 1}, {0, 0, -1, 1},
            {0, 0, 100000, 1}, {0, 0, 0, 0}, {0, 0, 0, 10}, {1, 0, 0, -1}};
        for (int[] b : bad) {
            due(13, "letter(" + b[0] + ", " + b[1] + ", " + b[2] + ", " + b[3] + ")",
                    x.letter(b[0], b[1], b[2], b[3]), OUTSIDE);
        }
        same(13, "letter, refused,", before, x);
    }

    private static void forgetting() {
        SightSpacing x = uniform("123", "456");
        x.judge(0, 1, 1);
        x.judge(1, 0, 2);
        x.judge(1, 1, 3);
        x.judge(0, 2, 4);
        due(14, "forget(1)", x.forget(1), 2);
        due(14, "told(0)", x.told(0), 5);
        due(14, "told(3)", x.told(3), 1);
        due(14, "pair(0, 2, 1)", x.pair(0, 2, 1), 104);
        due(14, "told(15)", x.told(15), 8);
        String before = all(x);
        due(14, "forget(1) again", x.forget(1), UNKNOWN);
        due(14, "forget(-1)", x.forget(-1), UNKNOWN);
        due(14, "forget(8)", x.forget(8), UNKNOWN);
        same(14, "forget, refused,", before, x);
        x.letter(1, 0, 0, 1);
        due(14, "pair(0, 1, 1) of a new one", x.pair(0, 1, 1), NONE);
        due(14, "forget(0)", x.forget(0), 2);
        due(14, "forget(1)", x.forget(1), 1);
        due(14, "forget(2)", x.forget(2), 0);
        due(14, "told(5)", x.told(5), 0);
    }

    private static void judging() {
        SightSpacing x = uniform("11", "22");
        due(15, "judge(0, 0, 20)", x.judge(0, 0, 20), 120);
        due(15, "judge(0, 0, -20)", x.judge(0, 0, -20), 80);
        due(15, "judge(0, 0, 3)", x.judge(0, 0, 3), 103);
        due(15, "judge(1, 1, 6)", x.judge(1, 1, 6), 105);
        due(15, "judge(0, 1, 9)", x.judge(0, 1, 9), 109);
        due(15, "judge(1, 1, 6) again", x.judge(1, 1, 6), 105);
        due(15, "told(3)", x.told(3), 3);
        due(15, "pair(1, 0, 1)", x.pair(1, 0, 1), NONE);
        due(15, "told(15)", x.told(15), 8);
        String before = all(x);
        due(15, "judge(0, 0, 21)", x.judge(0, 0, 21), OUTSIDE);
        due(15, "judge(0, 0, -21)", x.judge(0, 0, -21), OUTSIDE);
        due(15, "judge(0, 2, 21)", x.judge(0, 2, 21), UNKNOWN);
        due(15, "judge(2, 0, 0)", x.judge(2, 0, 0), UNKNOWN);
        due(15, "judge(-1, 0, 0)", x.judge(-1, 0, 0), UNKNOWN);
        due(15, "judge(0, 8, 0)", x.judge(0, 8, 0), UNKNOWN);
        same(15, "judge, refused,", before, x);
    }

    private static void withdrawing() {
        SightSpacing x = uniform("11", "22");
        x.judge(0, 1, -7);
        x.judge(1, 0, 20);
        due(16, "withdraw(0, 1)", x.withdraw(0, 1), 93);
        due(16, "told(3)", x.told(3), 1);
        due(16, "pair(0, 1, 1)", x.pair(0, 1, 1), NONE);
        due(16, "told(15)", x.told(15), 5);
        String before = all(x);
        due(16, "withdraw(0, 1) again", x.withdraw(0, 1), NOT);
        due(16, "withdraw(0, 2)", x.withdraw(0, 2), UNKNOWN);
        due(16, "withdraw(2, 0)", x.withdraw(2, 0), UNKNOWN);
        due(16, "withdraw(8, -1)", x.withdraw(8, -1), UNKNOWN);
        same(16, "withdraw, refused,", before, x);
        due(16, "withdraw(1, 0)", x.withdraw(1, 0), 120);
    }

    private static void terms() {
        int[] first = {4, 2, 9, 30, 0};
        int[] least = {0, 0, 1, 0, 0};
        int[] most = {99, 20, 20, 99, 2};
        SightSpacing x = new SightSpacing();
        for (int which = 0; which < 5; which++) {
            due(17, "term(" + which + ", least)", x.term(which, least[which]), first[which]);
            due(17, "term(" + which + ", most)", x.term(which, most[which]), least[which]);
            due(17, "told(" + (7 + which) + ")", x.told(7 + which), most[which]);
        }
        String before = all(x);
        for (int which = 0; which < 5; which++) {
            due(17, "term(" + which + ", below)", x.term(which, least[which] - 1), OUTSIDE);
            due(17, "term(" + which + ", above)", x.term(which, most[which] + 1), OUTSIDE);
        }
        due(17, "term(-1, 1)", x.term(-1, 1), OUTSIDE);
        due(17, "term(5, 1)", x.term(5, 1), OUTSIDE);
        same(17, "term, refused,", before, x);
        due(17, "term(0, 99) that changes nothing", x.term(0, 99), 99);
        due(17, "told(15)", x.told(15), 11);
    }

    /** THE SEED as the document tells it, in long, where nothing wraps. */
    private static long nextSeed(long seed) {
        return (seed * 1103515245L + 12345L) % 2147483648L;
    }

    private static void drifting() {
        SightSpacing x = new SightSpacing();
        due(18, "drift(0)", x.drift(0), OUTSIDE);
        due(18, "drift(13)", x.drift(13), OUTSIDE);
        due(18, "told(16)", x.told(16), 0);
        long seed = nextSeed(0);
        int c = (int) (seed / 65536 % 8);
        due(18, "drift(1)", x.drift(1), 1 << c);
        for (int k = 0; k < 10; k++) {
            seed = nextSeed(seed);
            due(18, "edge " + k, x.edge(c, k / 5, k % 5), (int) (seed / 65536 % 5));
        }
        seed = nextSeed(seed);
        due(18, "width", x.at(c, 0), (int) (seed / 65536 % 9) + 1);
        due(18, "told(16)", x.told(16), (int) seed);
        driftingOn();
    }

    private static void driftingOn() {
        int judgedOnes = 0;
        int others = 0;
        for (int start = 1; start < 120 && (judgedOnes < 3 || others < 3); start++) {
            SightSpacing x = uniform("0000000", "0000000");
            x.keep(0);
            x.seed(start * 9999991);
            long one = nextSeed(start * 9999991L);
            long two = nextSeed(one);
            long three = nextSeed(two);
            int c = (int) (one / 65536 % 8);
            int d = (int) (two / 65536 % 8);
            if (c == 7) {
                continue;
            }
            due(18, "drift(1)", x.drift(1), 127);
            due(18, "told(16)", x.told(16), (int) three);
            due(18, "told(15): a deed in any case", x.told(15), 1);
            due(18, "told(3)", x.told(3), d == 7 ? 0 : 1);
            due(18, "pair(c, d, 1)", x.pair(c, d, 1), d == 7 ? UNKNOWN : (int) (three / 65536 % 9) - 4 + 100);
            judgedOnes += d == 7 ? 0 : 1;
            others += d == 7 ? 1 : 0;
        }
        due(18, "both kinds came", judgedOnes >= 3 && others >= 3 ? 1 : 0, 1);
        SightSpacing y = new SightSpacing();
        y.drift(12);
        due(18, "told(15): each time a deed", y.told(15), 12);
        SightSpacing z = new SightSpacing();
        for (int k = 0; k < 12; k++) {
            z.drift(1);
        }
        due(18, "twelve are twelve times one", all(z).equals(all(y)) ? 1 : 0, 1);
    }

    private static void undoing() {
        SightSpacing x = new SightSpacing();
        due(19, "undo(1) of none", x.undo(1), NOT);
        due(19, "undo(0)", x.undo(0), OUTSIDE);
        due(19, "undo(17)", x.undo(17), OUTSIDE);
        x.letter(0, 12345, 54321, 3);
        x.letter(1, 0, 0, 1);
        x.judge(0, 1, 5);
        x.forget(0);
        due(19, "undo(1)", x.undo(1), 3);
        due(19, "pair(0, 1, 1)", x.pair(0, 1, 1), 105);
        due(19, "edge(0, 0, 4)", x.edge(0, 0, 4), 5);
        x.withdraw(0, 1);
        due(19, "undo(1)", x.undo(1), 3);
        due(19, "pair(0, 1, 1)", x.pair(0, 1, 1), 105);
        x.term(3, 50);
        tell(x, "a99999/99999,9;aim 60;");
        due(19, "undo(2)", x.undo(2), 3);
        due(19, "told(10)", x.told(10), 30);
        due(19, "at(0, 0)", x.at(0, 0), 3);
        due(19, "undo(4)", x.undo(4), NOT);
        due(19, "undo(2)", x.undo(2), 1);
        due(19, "told(15)", x.told(15), 1);
        due(19, "undo(1)", x.undo(1), 0);
        undoingMany();
    }

    private static void undoingMany() {
        SightSpacing x = new SightSpacing();
        for (int v = 1; v <= 20; v++) {
            x.term(0, v);
        }
        due(19, "told(15)", x.told(15), 16);
        due(19, "undo(16)", x.undo(16), 0);
        due(19, "told(7)", x.told(7), 4);
        due(19, "told(15)", x.told(15), 0);
        due(19, "undo(1)", x.undo(1), NOT);
        for (int v = 31; v <= 50; v++) {
            x.term(0, v);
        }
        x.undo(3);
        due(19, "told(7)", x.told(7), 47);
        x.term(0, 60);
        due(19, "told(15)", x.told(15), 14);
        x.undo(2);
        due(19, "told(7)", x.told(7), 46);
        SightSpacing y = new SightSpacing();
        y.seed(5);
        y.drift(4);
        y.write(4, 4, 3);
        int seed = y.told(16);
        int entries = y.told(13);
        give(y, "odd");
        y.undo(4);
        due(19, "THE SEED stays", y.told(16), seed);
        due(19, "THE BOOK stays", y.told(13), entries);
        due(19, "THE TEXT stays", y.told(12), 3);
        due(19, "told(0)", y.told(0), 0);
        y.drift(3);
        y.keep(1);
        due(19, "undo(1) behind keep", y.undo(1), NOT);
    }

    private static void writing() {
        SightSpacing x = uniform("11", "22");
        due(20, "write(0, 0, 3)", x.write(0, 0, 3), 1);
        due(20, "told(14)", x.told(14), NONE);
        due(20, "write(0, 1, 3)", x.write(0, 1, 3), 2);
        due(20, "write(1, 1, 2147483647)", x.write(1, 1, 2147483647), 3);
        due(20, "told(14)", x.told(14), 2);
        x.judge(1, 1, 4);
        due(20, "told(14) by another GAP", x.told(14), 0);
        x.undo(1);
        due(20, "told(14)", x.told(14), 2);
        x.forget(1);
        due(20, "told(14) of one that is not KNOWN", x.told(14), 1);
        due(20, "told(15)", x.told(15), 3);
        due(20, "write(1, 0, 0)", x.write(1, 0, 0), UNKNOWN);
        due(20, "write(0, 1, 0)", x.write(0, 1, 0), UNKNOWN);
        due(20, "write(0, 8, 0)", x.write(0, 8, 0), UNKNOWN);
        due(20, "write(-1, 0, 0)", x.write(-1, 0, 0), UNKNOWN);
        due(20, "told(13)", x.told(13), 3);
        for (int k = 4; k <= 20; k++) {
            due(20, "write(0, 0, 3)", x.write(0, 0, 3), k);
        }
        due(20, "write(0, 0, 3) at 20", x.write(0, 0, 3), FULL);
        due(20, "write(0, 1, 3) at 20", x.write(0, 1, 3), UNKNOWN);
        due(20, "told(13)", x.told(13), 20);
        SightSpacing y = uniform("1", "2");
        y.write(0, 0, 3);
        y.forget(0);
        due(20, "told(14) with its first LETTER gone", y.told(14), 0);
        SightSpacing z = uniform("36", "31");
        z.write(0, 1, -3);
        z.write(1, 0, 2);
        due(20, "told(14)", z.told(14), NONE);
        z.tear();
        z.write(0, 0, 0);
        due(20, "told(14)", z.told(14), NONE);
        z.write(1, 0, 0);
        z.forget(1);
        due(20, "told(14) of 0 with a LETTER gone", z.told(14), 1);
    }

    private static void tearing() {
        SightSpacing x = uniform("11", "22");
        due(21, "tear() of none", x.tear(), 0);
        x.write(0, 0, 9);
        x.write(0, 1, 3);
        due(21, "tear()", x.tear(), 2);
        due(21, "told(13)", x.told(13), 0);
        due(21, "told(14)", x.told(14), NONE);
        due(21, "tear() again", x.tear(), 0);
        due(21, "told(15)", x.told(15), 2);
        due(21, "write(0, 1, 3)", x.write(0, 1, 3), 1);
        due(21, "told(14)", x.told(14), NONE);
    }

    private static void seeding() {
        SightSpacing x = new SightSpacing();
        due(22, "seed(2147483647)", x.seed(2147483647), 0);
        due(22, "told(16)", x.told(16), 2147483647);
        due(22, "seed(-1)", x.seed(-1), OUTSIDE);
        due(22, "seed(-2147483648)", x.seed(-2147483648), OUTSIDE);
        due(22, "seed(0)", x.seed(0), 2147483647);
        due(22, "told(15)", x.told(15), 0);
        x.seed(2147483647);
        long seed = nextSeed(2147483647L);
        due(22, "drift(1)", x.drift(1), 1 << (int) (seed / 65536 % 8));
    }

    private static void images() {
        SightSpacing x = uniform("12", "34");
        x.judge(0, 1, 7);
        x.term(0, 50);
        x.seed(11);
        due(23, "keep(-1)", x.keep(-1), UNKNOWN);
        due(23, "keep(2)", x.keep(2), UNKNOWN);
        due(23, "told(15)", x.told(15), 4);
        due(24, "goBack(0)", x.goBack(0), NOT);
        due(24, "goBack(2)", x.goBack(2), UNKNOWN);
        due(24, "goBack(-1)", x.goBack(-1), UNKNOWN);
        due(24, "told(15)", x.told(15), 4);
        due(23, "keep(0)", x.keep(0), 1);
        due(23, "told(15)", x.told(15), 0);
        due(24, "goBack(1)", x.goBack(1), NOT);
        x.forget(1);
        x.letter(0, 99999, 99999, 9);
        x.term(4, 2);
        x.seed(22);
        due(23, "keep(1)", x.keep(1), 1);
        x.drift(7);
        x.write(0, 0, 0);
        give(x, "odd 3;");
        due(24, "goBack(0)", x.goBack(0), 1);
        due(24, "told(0)", x.told(0), 3);
        due(24, "told(7)", x.told(7), 50);
        due(24, "told(11)", x.told(11), 0);
        due(24, "told(16)", x.told(16), 11);
        due(24, "pair(0, 1, 1)", x.pair(0, 1, 1), 107);
        due(24, "edge(0, 0, 0)", x.edge(0, 0, 0), 1);
        due(24, "at(0, 0)", x.at(0, 0), 1);
        due(24, "THE TEXT stays", x.told(12), 6);
        due(24, "THE BOOK stays", x.told(13), 1);
        due(24, "told(15)", x.told(15), 0);
        due(24, "undo(1)", x.undo(1), NOT);
        imagesOn(x);
    }

    private static void imagesOn(SightSpacing x) {
        x.term(0, 1);
        due(24, "goBack(1)", x.goBack(1), 1);
        due(24, "told(0)", x.told(0), 1);
        due(24, "told(11)", x.told(11), 2);
        due(24, "told(16)", x.told(16), 22);
        due(24, "told(15)", x.told(15), 0);
        due(24, "edge(0, 1, 4)", x.edge(0, 1, 4), 9);
        x.letter(0, 0, 0, 1);
        due(24, "goBack(1) again", x.goBack(1), 1);
        due(24, "edge(0, 1, 4)", x.edge(0, 1, 4), 9);
        x.term(1, 17);
        due(23, "keep(1) again", x.keep(1), 1);
        x.term(1, 3);
        x.goBack(1);
        due(23, "told(8)", x.told(8), 17);
        x.goBack(0);
        due(23, "told(8) of the other", x.told(8), 2);
    }

    public static void main(String[] args) {
        newObject();
        feeding();
        telling();
        faultPlace();
        tolds();
        edges();
        classes();
        fars();
        pairs();
        cells();
        lines();
        words();
        lettersMade();
        forgetting();
        judging();
        withdrawing();
        terms();
        drifting();
        undoing();
        writing();
        tearing();
        seeding();
        images();
        System.out.println(asked + " answers asked, " + wrong + " not as due");
        if (wrong != 0) {
            System.exit(1);
        }
    }
}
