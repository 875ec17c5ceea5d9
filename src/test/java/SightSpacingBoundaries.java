import java.io.IOException;
import java.nio.file.Files;
import java.nio.file.Path;
import java.util.Arrays;
import java.util.LinkedHashMap;
import java.util.Map;

/**
 * Each sentence of ../shared/DOC.md, in its order, with tests of its own for the boundary cases that it names: the last
 * value that is allowed and the first that is not, nothing there yet and full, what comes round again, each refusal.
 * A sentence is told by sentence(..); at the end the document is looked at for words that no sentence here has told.
 * No object is asked more than 512 times.
 */
public final class SightSpacingBoundaries {
    private static final int NONE = -1;
    private static final int UNKNOWN = -1000000001;
    private static final int OUTSIDE = -1000000002;
    private static final int NOT = -1000000003;
    private static final int FULL = -1000000004;
    private static final int LEAST = Integer.MIN_VALUE;
    private static final int MOST = Integer.MAX_VALUE;

    private static int wrong = 0;
    private static int asked = 0;
    private static int askedOfSentence = 1;
    private static int sentences = 0;
    private static String place = "";
    private static String words = "";

    private interface Make {
        SightSpacing object();
    }

    private interface Call {
        int on(SightSpacing x);
    }

    // ---- the document

    private static final Map<String, String> SECTIONS = new LinkedHashMap<>();
    private static final Map<String, boolean[]> TOLD = new LinkedHashMap<>();

    private static void readDocument() throws IOException {
        Path document = Path.of("../shared/DOC.md");
        if (!Files.exists(document)) {
            System.out.println("no " + document + ": the sentences are not compared with it");
            return;
        }
        for (String section : Files.readString(document).split("(?m)^## ")) {
            int end = section.indexOf('\n');
            String name = section.substring(0, end).replaceAll(":.*", "").trim();
            String text = section.substring(end).replaceAll("\\s+", " ");
            SECTIONS.put(name, text);
            TOLD.put(name, new boolean[text.length()]);
        }
    }

    private static void mark(String in, String quote) {
        if (SECTIONS.isEmpty()) {
            return;
        }
        int from = SECTIONS.containsKey(in) ? SECTIONS.get(in).indexOf(quote) : -1;
        if (from < 0) {
            wrong++;
            System.out.println(in + " does not say: " + quote);
            return;
        }
        Arrays.fill(TOLD.get(in), from, from + quote.length(), true);
    }

    /** The answers that are asked next are due by these words. */
    private static void sentence(String in, String quote) {
        endSentence();
        place = in;
        words = quote;
        askedOfSentence = 0;
        sentences++;
        mark(in, quote);
    }

    private static void endSentence() {
        if (askedOfSentence == 0) {
            wrong++;
            System.out.println(place + ": no answer is asked for: " + words);
        }
    }

    private static void lookForWordsUntold() {
        endSentence();
        for (String name : SECTIONS.keySet()) {
            StringBuilder untold = new StringBuilder();
            boolean[] told = TOLD.get(name);
            for (int k = 0; k < told.length; k++) {
                untold.append(told[k] ? '\n' : SECTIONS.get(name).charAt(k));
            }
            for (String piece : untold.toString().split("\n+")) {
                if (piece.matches(".*[A-Za-z0-9].*")) {
                    wrong++;
                    System.out.println(name + ": no sentence here tells: " + piece.trim());
                }
            }
        }
    }

    // ---- answers

    private static void due(String call, long got, long want) {
        asked++;
        askedOfSentence++;
        if (got != want) {
            wrong++;
            System.out.println(place + " (" + words + "): " + call + " answered " + got + ", due is " + want);
        }
    }

    private static void due(String call, String got, String want) {
        asked++;
        askedOfSentence++;
        if (!got.equals(want)) {
            wrong++;
            System.out.println(place + " (" + words + "): " + call + " \"" + got + "\", due is \"" + want + "\"");
        }
    }

    private static void give(SightSpacing x, String text) {
        for (int k = 0; k < text.length(); k++) {
            x.feed(text.charAt(k));
        }
    }

    private static int tell(SightSpacing x, String text) {
        give(x, text);
        return x.tell();
    }

    /** What a text is answered by an object: how many clauses, or which FAULT where. */
    private static void dueText(Make made, String text, int answer, int fault) {
        SightSpacing x = made.object();
        due("tell() of '" + text + "'", tell(x, text), answer);
        due("fault() of '" + text + "'", x.fault(), fault);
    }

    private static void dueText(String text, int answer, int fault) {
        dueText(SightSpacingBoundaries::two, text, answer, fault);
    }

    /** LETTERS 0, 1 and so on, each with EDGES of one figure alone, and WIDTH 1. */
    private static SightSpacing uniform(String lefts, String rights) {
        SightSpacing x = new SightSpacing();
        for (int c = 0; c < lefts.length(); c++) {
            x.letter(c, 11111 * (lefts.charAt(c) - '0'), 11111 * (rights.charAt(c) - '0'), 1);
        }
        return x;
    }

    /** 'a' and 'b' are KNOWN, nothing else is there. */
    private static SightSpacing two() {
        return uniform("00", "00");
    }

    private static SightSpacing eight() {
        return uniform("00000000", "00000000");
    }

    /** Eight LETTERS, each in CLASSES of its own. */
    private static SightSpacing eightApart() {
        SightSpacing x = uniform("01234567", "01234567");
        x.term(0, 0);
        return x;
    }

    /** Three LETTERS in one CELL, with pairs JUDGED in the order aa, ab, ac, ba .. */
    private static SightSpacing oneCell(int odd, int... gaps) {
        SightSpacing x = uniform("000", "000");
        x.term(1, odd);
        for (int k = 0; k < gaps.length; k++) {
            x.judge(k / 3, k % 3, gaps[k]);
        }
        return x;
    }

    private static String line(SightSpacing x, int l) {
        StringBuilder b = new StringBuilder();
        int sign = x.line(l, 0);
        for (int k = 1; sign >= 0 && k < 20; k++) {
            b.append((char) sign);
            sign = x.line(l, k);
        }
        return b.toString();
    }

    /** All that can be asked, but THE TEXT's signs and what is kept for later (by 250 calls). */
    private static String all(SightSpacing x) {
        StringBuilder b = new StringBuilder();
        for (int what = 0; what <= 16; what++) {
            b.append(x.told(what)).append(' ');
        }
        b.append(x.fault());
        for (int c = 0; c < 8; c++) {
            for (int k = 0; k < 10; k++) {
                b.append(' ').append(x.edge(c, k / 5, k % 5));
            }
            for (int what = 0; what < 3; what++) {
                b.append(' ').append(x.at(c, what));
            }
            for (int d = 0; d < 8; d++) {
                b.append(' ').append(x.pair(c, d, 0)).append(' ').append(x.pair(c, d, 1));
            }
        }
        return b.toString();
    }

    /** The same object made twice, one with the call: it is answered so, and all is the same then, and later, too. */
    private static void changesNothing(Make made, String name, Call call, int want) {
        Call[] later = {
            x -> 0,
            x -> x.tell(),
            x -> x.goBack(0),
            x -> x.goBack(1),
            x -> x.drift(12),
            SightSpacingBoundaries::undoAll,
            SightSpacingBoundaries::fillBook,
        };
        for (int k = 0; k < later.length; k++) {
            SightSpacing with = made.object();
            SightSpacing without = made.object();
            due(name, call.on(with), want);
            due(name + " and then " + k, later[k].on(with), later[k].on(without));
            due("all behind " + name + " and " + k, all(with), all(without));
        }
    }

    private static int undoAll(SightSpacing x) {
        int sum = 0;
        for (int k = 0; k < 17; k++) {
            sum = 31 * sum + x.undo(1) + x.told(3) + x.told(10);
        }
        return sum;
    }

    private static int fillBook(SightSpacing x) {
        int sum = 0;
        for (int k = 0; k < 21; k++) {
            sum = 31 * sum + x.write(0, 0, 3);
        }
        return sum;
    }

    /** Something of all: LETTERS 0 .. 3, pairs, one of them STRANGE, TERMS, a SEED, IMAGE 0, deeds, entries, letters. */
    private static SightSpacing rich() {
        SightSpacing x = new SightSpacing();
        x.letter(0, 12345, 54321, 3);
        x.letter(1, 12344, 54320, 4);
        x.keep(0);
        x.letter(2, 90909, 11111, 9);
        x.letter(3, 12335, 50321, 1);
        x.judge(0, 1, 3);
        x.judge(1, 0, 4);
        x.judge(0, 0, 12);
        x.judge(3, 2, -20);
        x.term(3, 27);
        x.seed(4711);
        x.write(0, 0, 12);
        x.write(3, 2, 5);
        give(x, "odd 5;");
        return x;
    }

    /** As rich(), with all full that can be: THE TEXT, THE BOOK, what can be undone. */
    private static SightSpacing full() {
        SightSpacing x = rich();
        give(x, " ".repeat(144));
        for (int k = 2; k < 20; k++) {
            x.write(1, 1, k);
        }
        for (int k = 7; k < 18; k++) {
            x.term(3, k);
        }
        return x;
    }

    // ---- what it is, the face

    private static void whatItIs() {
        mark("What it is", SECTIONS.isEmpty() ? "" : SECTIONS.get("What it is").replaceAll("An object is used.*", ""));
        sentence("What it is", "An object is used for at most 512 calls after it has been made; what later calls answer is free.");
        SightSpacing x = new SightSpacing();
        for (int k = 0; k < 511; k++) {
            x.term(0, k % 100);
        }
        due("the 512th call", x.term(0, 77), 10);
        SightSpacing y = new SightSpacing();
        for (int k = 0; k < 510; k++) {
            y.term(0, k % 100);
        }
        due("undo(16), the 511th call", y.undo(16), 0);
        due("told(7), the 512th", y.told(7), 93);
        SightSpacing z = new SightSpacing();
        Draws draws = new Draws(0);
        for (int k = 0; k < 511; k++) {
            z.drift(12);
            draws.times(12);
        }
        due("told(16) behind 511 times drift(12)", z.told(16), draws.seed);
        SightSpacing v = new SightSpacing();
        for (int k = 0; k < 255; k++) {
            v.feed(32);
            v.tell();
        }
        v.feed('$');
        due("tell(), the 512th", v.tell(), -11);
    }

    private static void face() {
        mark("The public face", "```java public final class SightSpacing {");
        sentence("The public face", "public static final int NONE = -1, UNKNOWN = -1000000001, OUTSIDE = -1000000002, "
                + "NOT = -1000000003, FULL = -1000000004;");
        due("NONE", SightSpacing.NONE, -1);
        due("UNKNOWN", SightSpacing.UNKNOWN, -1000000001);
        due("OUTSIDE", SightSpacing.OUTSIDE, -1000000002);
        due("NOT", SightSpacing.NOT, -1000000003);
        due("FULL", SightSpacing.FULL, -1000000004);
        // That these are the methods, and no others are, is a test of SightSpacingLanguage.
        if (!SECTIONS.isEmpty()) {
            String text = SECTIONS.get("The public face");
            mark("The public face", text.substring(text.indexOf("public SightSpacing();")));
        }
    }

    // ---- terms: numbers and refusals

    private static void numbers() {
        mark("Terms", "Words in capitals are told where they come first. All numbers are whole.");
        sentence("Terms", "What has a number has it from 0 on.");
        SightSpacing x = new SightSpacing();
        x.letter(0, 12345, 67890, 5);
        due("the first CLASS of LEFT EDGES", x.at(0, 1), 0);
        due("the first CLASS of RIGHT EDGES", x.at(0, 2), 0);
        due("the first CELL", x.cell(0, 0, 0), 1);
        due("the first LINE, its first letter", x.line(0, 0), '0');
        due("the first height", x.edge(0, 0, 0), 1);
        x.write(0, 0, 50);
        due("the first entry", x.told(14), 0);
        due("the first IMAGE", x.keep(0), 1);
        sentence("Terms", "A SET is a whole number, bit k for k.");
        SightSpacing y = new SightSpacing();
        due("told(0) of none", y.told(0), 0);
        int set = 0;
        for (int c = 7; c >= 0; c--) {
            y.letter(c, 0, 0, 1);
            set += c == 0 ? 1 : 2 << c - 1;
            due("told(0) with " + c, y.told(0), set);
        }
        due("told(0) of all", set, 255);
        sentence("Terms", "NONE is -1.");
        due("told(14) without a BOOK", new SightSpacing().told(14), -1);
    }

    private static void orderOfRefusals() {
        sentence("Terms", "REFUSALS, of several the first in this order: UNKNOWN (a LETTER that is not KNOWN, a CLASS, LINE, "
                + "IMAGE that there is not), OUTSIDE (another number out of its bounds), NOT (not now, as told), FULL.");
        SightSpacing x = full();
        due("edge: LETTER and SIDE and height", x.edge(4, 2, 5), UNKNOWN);
        due("at: LETTER and what", x.at(4, 3), UNKNOWN);
        due("far: first LETTER and SIDE", x.far(4, 0, 2), UNKNOWN);
        due("far: second LETTER and SIDE", x.far(0, 4, -1), UNKNOWN);
        due("pair: first LETTER and what", x.pair(4, 0, 5), UNKNOWN);
        due("pair: second LETTER and what", x.pair(0, 4, -1), UNKNOWN);
        due("cell: CLASS of RIGHT and what", x.cell(8, 0, 6), UNKNOWN);
        due("cell: CLASS of LEFT and what", x.cell(0, 8, -1), UNKNOWN);
        due("line: LINE and k", x.line(100, -1), UNKNOWN);
        due("judge: first LETTER and gap", x.judge(4, 0, 21), UNKNOWN);
        due("judge: second LETTER and gap", x.judge(0, 4, -21), UNKNOWN);
        due("withdraw: LETTER, and not JUDGED", x.withdraw(0, 4), UNKNOWN);
        due("withdraw: LETTER, and not JUDGED", x.withdraw(4, 0), UNKNOWN);
        due("write: first LETTER, and full", x.write(4, 0, 0), UNKNOWN);
        due("write: second LETTER, and full", x.write(0, 4, 0), UNKNOWN);
        due("goBack: IMAGE, and not kept", x.goBack(2), UNKNOWN);
        due("goBack: IMAGE, and not kept", x.goBack(-1), UNKNOWN);
        due("feed: letter, and full", x.feed(256), OUTSIDE);
        due("feed: letter, and full", x.feed(-1), OUTSIDE);
        due("undo: n, and not so many", new SightSpacing().undo(17), OUTSIDE);
        due("undo: n, with none", new SightSpacing().undo(0), OUTSIDE);
        sentence("Terms", "They are far below all that is counted: -1000000001 and on.");
        SightSpacing y = uniform("00", "00");
        y.judge(0, 0, -20);
        due("the least word", y.word(5, 0, 0, 0, 0, 0), 1005 - 80);
        due("the least GAP and 100", y.pair(0, 0, 0), 80);
        due("the least that tell() answers", tell(y, "cc:0;"), -13);
    }

    private static void refusedTold(Make made) {
        int[] letters = {LEAST, -1, 256, MOST};
        for (int k : letters) {
            changesNothing(made, "feed(" + k + ")", x -> x.feed(k), OUTSIDE);
        }
        int[] whats = {LEAST, -1, 17, MOST};
        for (int k : whats) {
            changesNothing(made, "told(" + k + ")", x -> x.told(k), OUTSIDE);
        }
        int[] unknown = {LEAST, -1, 4, 7, 8, 32, MOST};
        for (int c : unknown) {
            changesNothing(made, "edge(" + c + ", 0, 0)", x -> x.edge(c, 0, 0), UNKNOWN);
            changesNothing(made, "at(" + c + ", 0)", x -> x.at(c, 0), UNKNOWN);
            changesNothing(made, "far(" + c + ", 0, 0)", x -> x.far(c, 0, 0), UNKNOWN);
            changesNothing(made, "far(0, " + c + ", 0)", x -> x.far(0, c, 0), UNKNOWN);
            changesNothing(made, "pair(" + c + ", 0, 0)", x -> x.pair(c, 0, 0), UNKNOWN);
            changesNothing(made, "pair(0, " + c + ", 0)", x -> x.pair(0, c, 0), UNKNOWN);
            changesNothing(made, "word(1, " + c + ", ..)", x -> x.word(1, c, 0, 0, 0, 0), UNKNOWN);
            changesNothing(made, "word(5, .., " + c + ")", x -> x.word(5, 0, 0, 0, 0, c), UNKNOWN);
        }
        int[] off = {LEAST, -1, 6, MOST};
        for (int k : off) {
            changesNothing(made, "edge(0, " + k + ", 0)", x -> x.edge(0, k, 0), OUTSIDE);
            changesNothing(made, "edge(0, 0, " + k + ")", x -> x.edge(0, 0, k), OUTSIDE);
            changesNothing(made, "at(0, " + k + ")", x -> x.at(0, k), OUTSIDE);
            changesNothing(made, "far(0, 1, " + k + ")", x -> x.far(0, 1, k), OUTSIDE);
            changesNothing(made, "pair(0, 1, " + k + ")", x -> x.pair(0, 1, k), OUTSIDE);
            changesNothing(made, "cell(0, 0, " + k + ")", x -> x.cell(0, 0, k), OUTSIDE);
            changesNothing(made, "cell(" + k + ", 0, 0)", x -> x.cell(k, 0, 0), UNKNOWN);
            changesNothing(made, "cell(0, " + k + ", 0)", x -> x.cell(0, k, 0), UNKNOWN);
            changesNothing(made, "word(" + k + ", 0, ..)", x -> x.word(k, 0, 0, 0, 0, 0), OUTSIDE);
        }
        changesNothing(made, "line(-1, 0)", x -> x.line(-1, 0), UNKNOWN);
        changesNothing(made, "line(" + MOST + ", 0)", x -> x.line(MOST, 0), UNKNOWN);
        changesNothing(made, "line(0, -1)", x -> x.line(0, -1), OUTSIDE);
        changesNothing(made, "line(0, " + LEAST + ")", x -> x.line(0, LEAST), OUTSIDE);
    }

    private static void refusedDeeds(Make made) {
        int[][] letters = {{-1, 0, 0, 1}, {8, 0, 0, 1}, {4, -1, 0, 1}, {4, 100000, 0, 1}, {4, 0, -1, 1}, {4, 0, 100000, 1},
            {0, 0, 0, 0}, {0, 0, 0, 10}, {LEAST, 0, 0, 1}, {MOST, 0, 0, 1}, {9, 0, 0, 1}, {4, LEAST, 0, 1}, {4, MOST, 0, 1},
            {4, 0, LEAST, 1}, {4, 0, MOST, 1}, {4, 0, 0, LEAST}, {4, 0, 0, MOST}};
        for (int[] k : letters) {
            changesNothing(made, "letter(" + Arrays.toString(k) + ")", x -> x.letter(k[0], k[1], k[2], k[3]), OUTSIDE);
        }
        int[] unknown = {LEAST, -1, 4, 7, 8, 32, MOST};
        for (int c : unknown) {
            changesNothing(made, "forget(" + c + ")", x -> x.forget(c), UNKNOWN);
            changesNothing(made, "judge(" + c + ", 0, 0)", x -> x.judge(c, 0, 0), UNKNOWN);
            changesNothing(made, "judge(0, " + c + ", 0)", x -> x.judge(0, c, 0), UNKNOWN);
            changesNothing(made, "withdraw(" + c + ", 0)", x -> x.withdraw(c, 0), UNKNOWN);
            changesNothing(made, "withdraw(0, " + c + ")", x -> x.withdraw(0, c), UNKNOWN);
            changesNothing(made, "write(" + c + ", 0, 0)", x -> x.write(c, 0, 0), UNKNOWN);
            changesNothing(made, "write(0, " + c + ", 0)", x -> x.write(0, c, 0), UNKNOWN);
        }
        int[] gaps = {LEAST, -21, 21, MOST};
        for (int gap : gaps) {
            changesNothing(made, "judge(0, 1, " + gap + ")", x -> x.judge(0, 1, gap), OUTSIDE);
        }
        changesNothing(made, "withdraw(1, 1)", x -> x.withdraw(1, 1), NOT);
        changesNothing(made, "withdraw(2, 3)", x -> x.withdraw(2, 3), NOT);
        int[][] terms = {{-1, 1}, {5, 1}, {LEAST, 1}, {MOST, 1}, {0, -1}, {0, 100}, {1, -1}, {1, 21}, {2, 0}, {2, 21}, {3, -1},
            {3, 100}, {4, -1}, {4, 3}, {0, LEAST}, {4, MOST}};
        for (int[] k : terms) {
            changesNothing(made, "term(" + Arrays.toString(k) + ")", x -> x.term(k[0], k[1]), OUTSIDE);
        }
        int[] drifts = {LEAST, -1, 0, 13, MOST};
        for (int n : drifts) {
            changesNothing(made, "drift(" + n + ")", x -> x.drift(n), OUTSIDE);
        }
        int[] undos = {LEAST, -1, 0, 17, MOST};
        for (int n : undos) {
            changesNothing(made, "undo(" + n + ")", x -> x.undo(n), OUTSIDE);
        }
        changesNothing(made, "seed(-1)", x -> x.seed(-1), OUTSIDE);
        changesNothing(made, "seed(" + LEAST + ")", x -> x.seed(LEAST), OUTSIDE);
        int[] images = {LEAST, -1, 2, MOST};
        for (int i : images) {
            changesNothing(made, "keep(" + i + ")", x -> x.keep(i), UNKNOWN);
            changesNothing(made, "goBack(" + i + ")", x -> x.goBack(i), UNKNOWN);
        }
        changesNothing(made, "goBack(1)", x -> x.goBack(1), NOT);
    }

    private static void refused() {
        sentence("Terms", "What is refused changes nothing.");
        refusedTold(SightSpacingBoundaries::rich);
        refusedDeeds(SightSpacingBoundaries::rich);
        changesNothing(SightSpacingBoundaries::rich, "undo(8)", x -> x.undo(8), NOT);
        changesNothing(SightSpacingBoundaries::rich, "undo(16)", x -> x.undo(16), NOT);
        changesNothing(SightSpacingBoundaries::full, "feed(97)", x -> x.feed(97), FULL);
        changesNothing(SightSpacingBoundaries::full, "feed(256)", x -> x.feed(256), OUTSIDE);
        changesNothing(SightSpacingBoundaries::full, "write(0, 1, 0)", x -> x.write(0, 1, 0), FULL);
        changesNothing(SightSpacingBoundaries::full, "letter(8, ..)", x -> x.letter(8, 0, 0, 1), OUTSIDE);
        changesNothing(SightSpacingBoundaries::full, "forget(4)", x -> x.forget(4), UNKNOWN);
        changesNothing(SightSpacingBoundaries::full, "judge(0, 1, 21)", x -> x.judge(0, 1, 21), OUTSIDE);
        changesNothing(SightSpacingBoundaries::full, "withdraw(1, 1)", x -> x.withdraw(1, 1), NOT);
        changesNothing(SightSpacingBoundaries::full, "term(4, 3)", x -> x.term(4, 3), OUTSIDE);
        changesNothing(SightSpacingBoundaries::full, "drift(13)", x -> x.drift(13), OUTSIDE);
        changesNothing(SightSpacingBoundaries::full, "undo(17)", x -> x.undo(17), OUTSIDE);
        changesNothing(SightSpacingBoundaries::full, "keep(2)", x -> x.keep(2), UNKNOWN);
        changesNothing(SightSpacingBoundaries::full, "goBack(1)", x -> x.goBack(1), NOT);
        changesNothing(SightSpacing::new, "undo(1)", x -> x.undo(1), NOT);
        changesNothing(SightSpacing::new, "goBack(0)", x -> x.goBack(0), NOT);
        changesNothing(SightSpacing::new, "cell(0, 0, 0)", x -> x.cell(0, 0, 0), UNKNOWN);
        changesNothing(SightSpacing::new, "line(0, 0)", x -> x.line(0, 0), UNKNOWN);
        changesNothing(SightSpacing::new, "forget(0)", x -> x.forget(0), UNKNOWN);
    }

    // ---- terms: section 1

    private static void letters() {
        sentence("Terms", "======== 1 LETTERS 0 .. 7 ('a' to 'h'), each KNOWN or not (none at first).");
        SightSpacing x = new SightSpacing();
        for (int c = 0; c < 8; c++) {
            due("at(" + c + ", 0) at first", x.at(c, 0), UNKNOWN);
        }
        due("letter(0, ..)", x.letter(0, 0, 0, 1), 1);
        due("letter(7, ..)", x.letter(7, 0, 0, 1), 2);
        due("letter(-1, ..)", x.letter(-1, 0, 0, 1), OUTSIDE);
        due("letter(8, ..)", x.letter(8, 0, 0, 1), OUTSIDE);
        SightSpacing y = new SightSpacing();
        due("tell() of 'a' and 'h'", tell(y, "a00000/00000,1;h00000/00000,1;"), 2);
        due("told(0)", y.told(0), 129);
        dueText("`00000/00000,1;", -11, 0);
        dueText("i00000/00000,1;", -11, 0);
        dueText("A00000/00000,1;", -11, 0);
        sentence("Terms", "A KNOWN one has a LEFT and a RIGHT EDGE, each five numbers (0 .. 9), and a WIDTH (1 .. 9).");
        SightSpacing z = new SightSpacing();
        z.letter(0, 0, 99999, 1);
        z.letter(1, 90909, 9090, 9);
        for (int h = 0; h < 5; h++) {
            due("edge(0, 0, " + h + ")", z.edge(0, 0, h), 0);
            due("edge(0, 1, " + h + ")", z.edge(0, 1, h), 9);
            due("edge(1, 0, " + h + ")", z.edge(1, 0, h), h % 2 == 0 ? 9 : 0);
            due("edge(1, 1, " + h + ")", z.edge(1, 1, h), h % 2 == 0 ? 0 : 9);
        }
        due("edge(0, 0, 5)", z.edge(0, 0, 5), OUTSIDE);
        due("at(0, 0)", z.at(0, 0), 1);
        due("at(1, 0)", z.at(1, 0), 9);
        due("letter(0, .., 0)", z.letter(0, 0, 0, 0), OUTSIDE);
        due("letter(0, .., 10)", z.letter(0, 0, 0, 10), OUTSIDE);
    }

    private static void terms() {
        sentence("Terms", "TERMS: LIKE (0 .. 99; 4 at first), ODD (0 .. 20; 2), CAP (1 .. 20; 9), AIM (0 .. 99; 30), "
                + "BY (0 .. 2; 0).");
        int[] first = {4, 2, 9, 30, 0};
        int[] least = {0, 0, 1, 0, 0};
        int[] most = {99, 20, 20, 99, 2};
        String[] names = {"like ", "odd ", "cap ", "aim "};
        SightSpacing x = new SightSpacing();
        for (int k = 0; k < 5; k++) {
            due("told(" + (7 + k) + ") at first", x.told(7 + k), first[k]);
            due("term(" + k + ", least - 1)", x.term(k, least[k] - 1), OUTSIDE);
            due("term(" + k + ", most + 1)", x.term(k, most[k] + 1), OUTSIDE);
            due("term(" + k + ", least)", x.term(k, least[k]), first[k]);
            due("told(" + (7 + k) + ")", x.told(7 + k), least[k]);
            due("term(" + k + ", most)", x.term(k, most[k]), least[k]);
            due("told(" + (7 + k) + ")", x.told(7 + k), most[k]);
        }
        for (int k = 0; k < 4; k++) {
            int at = names[k].length();
            SightSpacing y = new SightSpacing();
            due("tell() of the least", tell(y, names[k] + least[k] + ";"), 1);
            due("told(" + (7 + k) + ")", y.told(7 + k), least[k]);
            due("tell() of the most", tell(y, names[k] + most[k] + ";"), 1);
            due("told(" + (7 + k) + ")", y.told(7 + k), most[k]);
            dueText(names[k] + (most[k] + 1) + ";", -12, at);
            dueText(names[k] + "-1;", -11, at);
            dueText(names[k] + "0;", least[k] == 0 ? 1 : -12, least[k] == 0 ? NONE : at);
        }
    }

    private static void judgements() {
        sentence("Terms", "JUDGED, a pair of KNOWN LETTERS, one ahead of the other (perhaps the same): a gap (-20 .. 20).");
        SightSpacing x = two();
        due("judge(0, 1, -20)", x.judge(0, 1, -20), 80);
        due("pair(1, 0, 1): the other way round", x.pair(1, 0, 1), NONE);
        due("judge(0, 1, 20)", x.judge(0, 1, 20), 120);
        due("judge(0, 1, -21)", x.judge(0, 1, -21), OUTSIDE);
        due("judge(0, 1, 21)", x.judge(0, 1, 21), OUTSIDE);
        due("pair(0, 1, 1)", x.pair(0, 1, 1), 120);
        due("judge(1, 1, 20): the same", x.judge(1, 1, 20), 120);
        due("judge(1, 2, 0)", x.judge(1, 2, 0), UNKNOWN);
        due("judge(2, 1, 0)", x.judge(2, 1, 0), UNKNOWN);
        due("judge(2, 2, 0)", x.judge(2, 2, 0), UNKNOWN);
        dueText("ab:20;", 1, NONE);
        dueText("ab:-20;", 1, NONE);
        dueText("ab:21;", -12, 3);
        dueText("ab:-21;", -12, 4);
        dueText("aa:0;", 1, NONE);
    }

    // ---- terms: the text

    private static void clauses() {
        mark("Terms", "```text THE TEXT");
        sentence("Terms", "(150 letters at most): clauses, each with ';' behind it:");
        String most = "a12345/54321,9;".repeat(10);
        SightSpacing x = new SightSpacing();
        give(x, most);
        due("told(12)", x.told(12), 150);
        due("feed(';') at 150", x.feed(';'), FULL);
        due("tell() of 150 letters", x.tell(), 10);
        due("told(12) behind it", x.told(12), 0);
        SightSpacing y = two();
        due("tell() of 30 clauses", tell(y, "aa:0;".repeat(29) + "aa:7;"), 30);
        due("pair(0, 0, 1): the last one is told, too", y.pair(0, 0, 1), 107);
        dueText("odd 3", -11, 5);
        dueText("odd 3;odd 4", -11, 11);
        dueText("odd 3;", 1, NONE);
        dueText("odd 3 odd 4;", -11, 6);
        dueText(";", -11, 0);
        dueText("odd 3;;", -11, 6);
        dueText("odd 3:", -11, 5);
    }

    private static void letterClauses() {
        sentence("Terms", "a LETTER, five figures side by side (LEFT), '/', five (RIGHT), ',', one figure 1 to 9 (WIDTH): "
                + "it is KNOWN so (also if it was; its pairs stay JUDGED);");
        dueText("c00000/99999,1;", 1, NONE);
        dueText("c99999/00000,9;", 1, NONE);
        dueText("c/00000,1;", -11, 1);
        dueText("c0000/00000,1;", -11, 5);
        dueText("c000000/00000,1;", -11, 6);
        dueText("c00000 00000,1;", -11, 7);
        dueText("c00000,00000,1;", -11, 6);
        dueText("c00000//00000,1;", -11, 7);
        dueText("c00000/,1;", -11, 7);
        dueText("c00000/0000,1;", -11, 11);
        dueText("c00000/000000,1;", -11, 12);
        dueText("c00000/00000/1;", -11, 12);
        dueText("c00000/00000,;", -11, 13);
        dueText("c00000/00000,0;", -11, 13);
        dueText("c00000/00000,10;", -11, 14);
        dueText("c00000/00000,1,", -11, 14);
        dueText("c-0000/00000,1;", -11, 1);
        // The signs on both sides of the figures.
        dueText("c0000/", -11, 5);
        dueText("c0000:/00000,1;", -11, 5);
        dueText("c00000/00000,/;", -11, 13);
        dueText("c00000/00000,:;", -11, 13);
        SightSpacing x = two();
        x.judge(0, 1, 5);
        x.judge(1, 0, 6);
        x.judge(0, 0, 7);
        due("tell() of one that was KNOWN", tell(x, "a12345/67890,8;"), 1);
        due("told(0)", x.told(0), 3);
        for (int h = 0; h < 5; h++) {
            due("edge(0, 0, " + h + ")", x.edge(0, 0, h), h + 1);
            due("edge(0, 1, " + h + ")", x.edge(0, 1, h), (h + 6) % 10);
        }
        due("at(0, 0)", x.at(0, 0), 8);
        due("pair(0, 1, 1)", x.pair(0, 1, 1), 105);
        due("pair(1, 0, 1)", x.pair(1, 0, 1), 106);
        due("pair(0, 0, 1)", x.pair(0, 0, 1), 107);
    }

    private static void pairClauses() {
        sentence("Terms", "two LETTERS that are KNOWN (by this text, too), ':', perhaps '-', a NUMBER: JUDGED so (also if it was);");
        dueText("c00000/00000,1;cc:1;ac:2;ca:3;", 4, NONE);
        dueText("cc:1;c00000/00000,1;", -13, 0);
        dueText("ab1;", -11, 2);
        dueText("ab-1;", -11, 2);
        dueText("ab;1;", -11, 2);
        dueText("ab::1;", -11, 3);
        dueText("ab:;", -11, 3);
        dueText("ab:-;", -11, 4);
        dueText("ab:--1;", -11, 4);
        dueText("ab:+1;", -11, 3);
        dueText("ab:1-;", -11, 4);
        dueText("ab:-0;", 1, NONE);
        SightSpacing x = two();
        due("tell()", tell(x, "ab:-20;ba:20;aa:-0;bb:-07;"), 4);
        due("pair(0, 1, 1)", x.pair(0, 1, 1), 80);
        due("pair(1, 0, 1)", x.pair(1, 0, 1), 120);
        due("pair(0, 0, 1)", x.pair(0, 0, 1), 100);
        due("pair(1, 1, 1)", x.pair(1, 1, 1), 93);
        due("tell() of one that was JUDGED", tell(x, "ab:1;ab:2;"), 2);
        due("pair(0, 1, 1)", x.pair(0, 1, 1), 102);
        due("told(3)", x.told(3), 4);
    }

    private static void termClauses() {
        sentence("Terms", "'like' NUMBER, 'odd' NUMBER, 'cap' NUMBER, 'aim' NUMBER; 'by' and 'sum', 'most' or 'square' (0, 1, 2).");
        SightSpacing x = new SightSpacing();
        due("tell()", tell(x, "like 11;odd 12;cap 13;aim 14;by most;"), 5);
        int[] want = {11, 12, 13, 14, 1};
        for (int k = 0; k < 5; k++) {
            due("told(" + (7 + k) + ")", x.told(7 + k), want[k]);
        }
        due("tell()", tell(x, "by square;"), 1);
        due("told(11)", x.told(11), 2);
        due("tell()", tell(x, "by sum;"), 1);
        due("told(11)", x.told(11), 0);
        dueText("like;", -11, 4);
        dueText("odd;", -11, 3);
        dueText("cap;", -11, 3);
        dueText("aim;", -11, 3);
        dueText("by;", -11, 2);
        dueText("by 0;", -11, 3);
        dueText("by mosts;", -11, 3);
        dueText("by mos;", -11, 3);
        dueText("by squar;", -11, 3);
        dueText("by squares;", -11, 3);
        dueText("by su;", -11, 3);
        dueText("by summ;", -11, 3);
        dueText("by like;", -11, 3);
        dueText("like most;", -11, 5);
        dueText("sum;", -11, 0);
        dueText("most;", -11, 0);
        String[] others = {"mike 1;", "lake 1;", "line 1;", "lika 1;", "add 1;", "old 1;", "ode 1;", "tap 1;", "cup 1;", "car 1;",
            "him 1;", "arm 1;", "aid 1;", "my sum;", "bz sum;"};
        for (String text : others) {
            dueText(text, -11, 0);
        }
        String[] measures = {"by rum;", "by som;", "by sun;", "by host;", "by mist;", "by moat;", "by moss;", "by zquare;",
            "by squara;"};
        for (String text : measures) {
            dueText(text, -11, 3);
        }
    }

    private static void wordsOfTexts() {
        sentence("Terms", "Words are letters 'a' to 'z' side by side; a word of one letter is a LETTER, of two of 'a' to 'h' a pair;");
        Make all = SightSpacingBoundaries::eight;
        dueText(all, "hh:1;ah:1;ha:1;", 3, NONE);
        dueText(all, "hi:1;", -11, 0);
        dueText(all, "ih:1;", -11, 0);
        dueText(all, "a`:1;", -11, 1);
        dueText(all, "`a:1;", -11, 0);
        dueText(all, "aaa:1;", -11, 0);
        dueText(all, "ha00000/00000,1;", -11, 2);
        dueText(all, "h:1;", -11, 1);
        dueText(all, "zz:1;", -11, 0);
        // The signs on both sides of 'a' to 'z' end a word, and so does a great one.
        dueText(all, "like`4;", -11, 4);
        dueText(all, "like{4;", -11, 4);
        dueText(all, "likez4;", -11, 0);
        dueText(all, "likea4;", -11, 0);
        dueText(all, "likE4;", -11, 0);
        dueText(all, "lik;", -11, 0);
        dueText(all, "likes;", -11, 0);
        dueText(all, "LIKE 4;", -11, 0);
    }

    private static void numbersOfTexts() {
        sentence("Terms", "NUMBERS have 1 or 2 figures;");
        dueText("like;", -11, 4);
        dueText("like 9;", 1, NONE);
        dueText("like 99;", 1, NONE);
        dueText("like 00;", 1, NONE);
        dueText("like 09;", 1, NONE);
        dueText("like 009;", -12, 5);
        dueText("like 999;", -12, 5);
        dueText("ab:020;", -12, 3);
        dueText("ab:-000;", -12, 4);
        dueText("like /;", -11, 5);
        dueText("like :;", -11, 5);
        dueText("like 9/;", -11, 6);
        dueText("like 9:;", -11, 6);
        SightSpacing x = new SightSpacing();
        tell(x, "like 07;odd 9;cap 10;aim 90;");
        int[] want = {7, 9, 10, 90};
        for (int k = 0; k < 4; k++) {
            due("told(" + (7 + k) + ")", x.told(7 + k), want[k]);
        }
    }

    private static void blankedEverywhere(String... tokens) {
        for (int at = 0; at <= tokens.length; at++) {
            StringBuilder text = new StringBuilder();
            StringBuilder wide = new StringBuilder();
            for (int k = 0; k < tokens.length; k++) {
                text.append(k == at ? " " : "").append(tokens[k]);
                wide.append(k == at ? "     " : "").append(tokens[k]);
            }
            dueText(text + (at == tokens.length ? " " : ""), 1, NONE);
            dueText(wide + (at == tokens.length ? "     " : ""), 1, NONE);
        }
    }

    private static void blanks() {
        sentence("Terms", "blanks (32) may stand anywhere (behind '-', too) but within words, NUMBERS, the five figures of an EDGE;");
        blankedEverywhere("a", "12345", "/", "67890", ",", "5", ";");
        blankedEverywhere("ab", ":", "-", "12", ";");
        blankedEverywhere("ab", ":", "7", ";");
        blankedEverywhere("like", "12", ";");
        blankedEverywhere("cap", "9", ";");
        blankedEverywhere("by ", "most", ";");
        dueText(" ".repeat(144) + "odd 5;", 1, NONE);
        String[] within = {"a1 2345/67890,5;", "a12 345/67890,5;", "a123 45/67890,5;", "a1234 5/67890,5;", "a12345/6 7890,5;",
            "a12345/6789 0,5;", "like 1 2;", "ab:1 2;", "ab:-1 2;", "l ike 1;", "li ke 1;", "lik e 1;", "o dd 1;", "od d 1;",
            "c ap 1;", "a im 1;", "ai m 1;", "b y sum;", "by s um;", "by mos t;", "a b:1;"};
        int[] places = {2, 3, 4, 5, 8, 11, 7, 5, 6, 0, 0, 0, 0, 0, 2, 2, 0, 2, 3, 3, 2};
        for (int k = 0; k < within.length; k++) {
            dueText(within[k], -11, places[k]);
        }
        // 'ca' is a pair, and no LETTER 'c' is KNOWN; if it is, 'p' cannot stand behind it.
        dueText("ca p 1;", -13, 0);
        dueText(SightSpacingBoundaries::eight, "ca p 1;", -11, 3);
        char[] others = {31, 33, 9, 10, 0, 160, 255};
        for (char other : others) {
            dueText("odd" + other + "5;", -11, 3);
            dueText(other + "odd 5;", -11, 0);
            dueText("odd 5;" + other, -11, 6);
        }
        sentence("Terms", "none is needed between a word and a figure.");
        dueText("like4;", 1, NONE);
        dueText("odd20;cap1;aim0;", 3, NONE);
        dueText("a00000/00000,1;", 1, NONE);
        dueText("bysum;", -11, 0);
        dueText("like4odd5;", -11, 5);
    }

    private static void faults() {
        sentence("Terms", "FAULTS, at the first letter that has one (the end at the text's length), of these the least:");
        dueText("odd 21;;", -12, 4);
        dueText(";odd 21;", -11, 0);
        dueText("cc:1;odd 21;", -13, 0);
        dueText("odd 21;cc:1;", -12, 4);
        dueText("odd 1;cc:1;;", -13, 6);
        dueText("cc:21;", -13, 0);
        dueText("cc", -13, 0);
        dueText("cc;", -13, 0);
        dueText("cc:;", -13, 0);
        dueText("odd 21", -12, 4);
        dueText("odd 21x", -12, 4);
        dueText("odd 021x", -12, 4);
        // At one letter a word that cannot stand and a pair that is not KNOWN: the least.
        dueText("odd 1 cc:1;", -11, 6);
        dueText("by cc;", -11, 3);
        dueText("like cc:1;", -11, 5);
        dueText("a cc:1;", -11, 2);
        sentence("Terms", "1 it cannot stand there (a word that cannot: at its first letter; the end, too, within a clause).");
        String[] whole = {"a12345/67890,5;", "ab:-12;", "like 12;", "by square;"};
        for (String text : whole) {
            dueText("odd 3;" + text, 2, NONE);
            dueText("odd 3;" + text + "\u007f", -11, 6 + text.length());
        }
        for (int k = 1; k < whole[0].length(); k++) {
            dueText(whole[0].substring(0, k), -11, k);
            dueText(whole[0].substring(0, k) + "   ", -11, k >= 2 && k <= 5 || k >= 8 && k <= 11 ? k : k + 3);
            dueText(whole[0].substring(0, k) + "!", -11, k);
        }
        for (int k = 2; k < whole[1].length(); k++) {
            dueText(whole[1].substring(0, k), -11, k);
            dueText(whole[1].substring(0, k) + "   ", -11, k + 3);
            dueText(whole[1].substring(0, k) + "!", -11, k);
        }
        for (int k = 1; k < whole[2].length(); k++) {
            dueText(whole[2].substring(0, k), -11, k < 4 ? 0 : k);
        }
        for (int k = 2; k < whole[3].length(); k++) {
            dueText(whole[3].substring(0, k), -11, k > 3 && k < 9 ? 3 : k);
        }
        String longer = "a12345/67890,5;ab:-12;like 12;by square;";
        for (int k = 0; k < longer.length(); k++) {
            SightSpacing fresh = two();
            int answer = tell(fresh, longer.substring(0, k));
            SightSpacing used = two();
            tell(used, "!" + longer.substring(1));
            due("tell() of the first " + k + " behind a longer text", tell(used, longer.substring(0, k)), answer);
            due("fault() of the first " + k + " behind a longer text", used.fault(), fresh.fault());
            int shift = fresh.fault() == NONE ? 0 : 150 - k;
            dueText(" ".repeat(150 - k) + longer.substring(0, k), answer, fresh.fault() + shift);
        }
        dueText(" ".repeat(149) + "a", -11, 150);
        dueText(" ".repeat(149) + "!", -11, 149);
        dueText("odd 3; \u007f", -11, 7);
        dueText("\u0000", -11, 0);
        dueText("\u00ff", -11, 0);
        sentence("Terms", "2 a NUMBER out of its bounds, or with a third figure (at its first figure).");
        dueText("ab:21;", -12, 3);
        dueText("ab:20;", 1, NONE);
        dueText("ab: - 21;", -12, 6);
        dueText("ab:99;", -12, 3);
        dueText("odd   21;", -12, 6);
        dueText("cap 0;", -12, 4);
        dueText("cap 00;", -12, 4);
        dueText("cap 01;", 1, NONE);
        dueText("cap 21;", -12, 4);
        dueText("like 100;", -12, 5);
        dueText("like 004;", -12, 5);
        dueText("like 0000000;", -12, 5);
        dueText("like 10 0;", -11, 8);
        dueText("aim 099;", -12, 4);
        sentence("Terms", "3 a pair with a LETTER that is not KNOWN (at its first letter).");
        dueText("ac:1;", -13, 0);
        dueText("ca:1;", -13, 0);
        dueText("cc:1;", -13, 0);
        dueText("  ac:1;", -13, 2);
        dueText("ab:1;ba:1;bh:1;", -13, 10);
        dueText(SightSpacing::new, "aa:1;", -13, 0);
        SightSpacing x = two();
        x.forget(1);
        due("tell() of one that is not KNOWN any more", tell(x, "ab:1;"), -13);
        // What a text with a FAULT said comes to nothing, for the next one, too.
        SightSpacing y = two();
        tell(y, "c00000/00000,1;;");
        due("tell() of one of a text with a FAULT", tell(y, "cc:1;"), -13);
        sentence("Terms", "(A text without clauses changes nothing; it is a deed, too.)");
        String[] none = {"", " ", " ".repeat(150)};
        for (String text : none) {
            SightSpacing z = two();
            due("tell() without clauses", tell(z, text), 0);
            due("told(15)", z.told(15), 3);
            z.undo(1);
            due("all behind it", all(z), all(two()));
        }
    }

    // ---- terms: section 2

    /** Two LETTERS, and whether they are LIKE by their LEFT EDGES. */
    private static void dueLike(int by, int like, int left, int right, boolean want) {
        SightSpacing x = new SightSpacing();
        x.letter(0, left, 0, 1);
        x.letter(1, right, 0, 1);
        x.term(0, like);
        x.term(4, by);
        due(left + " and " + right + " by " + by + " with LIKE " + like, x.told(1), want ? 1 : 2);
    }

    private static void howFar() {
        sentence("Terms", "======== 2 FAR, two EDGES, by BY: 0 the sum of by how much their numbers are apart, "
                + "1 the greatest of these, 2 the sum of their squares.");
        SightSpacing x = new SightSpacing();
        x.letter(0, 0, 99999, 1);
        x.letter(1, 99999, 99998, 1);
        int[] farthest = {45, 9, 405};
        for (int by = 0; by < 3; by++) {
            x.term(4, by);
            due("far(0, 1, 0) by " + by, x.far(0, 1, 0), farthest[by]);
            due("far(1, 0, 0) by " + by, x.far(1, 0, 0), farthest[by]);
            due("far(0, 0, 0) by " + by, x.far(0, 0, 0), 0);
            due("far(0, 1, 1) by " + by, x.far(0, 1, 1), 1);
        }
        sentence("Terms", "LIKE ones: FAR is LIKE at most.");
        dueLike(0, 45, 0, 99999, true);
        dueLike(0, 44, 0, 99999, false);
        dueLike(1, 9, 0, 99999, true);
        dueLike(1, 8, 0, 99999, false);
        dueLike(2, 99, 0, 94110, true);
        dueLike(2, 98, 0, 94110, false);
        dueLike(2, 99, 0, 94111, false);
        for (int by = 0; by < 3; by++) {
            dueLike(by, 0, 12345, 12345, true);
            dueLike(by, 0, 12345, 12346, false);
            dueLike(by, 1, 12345, 12346, true);
        }
        dueLike(0, 1, 12345, 12356, false);
        dueLike(1, 1, 12345, 23456, true);
    }

    private static void dueClasses(SightSpacing x, int what, String want) {
        StringBuilder got = new StringBuilder();
        for (int c = 0; c < want.length(); c++) {
            int at = x.at(c, what);
            got.append(at == UNKNOWN ? "-" : Integer.toString(at));
        }
        due("CLASSES", got.toString(), want);
    }

    private static SightSpacing byMost(int like, String lefts) {
        SightSpacing x = uniform(lefts, "00000000".substring(0, lefts.length()));
        x.term(4, 1);
        x.term(0, like);
        return x;
    }

    private static void classes() {
        sentence("Terms", "CLASSES of a SIDE (0 LEFT, 1 RIGHT): the KNOWN LETTERS parted into as few as can be, such that any two "
                + "in one have LIKE EDGES of this SIDE;");
        due("told(1) of none", new SightSpacing().told(1), 0);
        due("told(2) of none", new SightSpacing().told(2), 0);
        due("told(1) of eight LIKE ones", eight().told(1), 1);
        due("told(1) of eight", eightApart().told(1), 8);
        due("told(2) of eight", eightApart().told(2), 8);
        SightSpacing x = uniform("09", "00");
        due("told(1): SIDE 0 is LEFT", x.told(1), 2);
        due("told(2): SIDE 1 is RIGHT", x.told(2), 1);
        // LIKE is no chain: 0 and 2, 2 and 4, not 0 and 4.
        due("told(1) of a chain", byMost(2, "024").told(1), 2);
        // Who takes what fits first needs three.
        due("told(1) where the first that fits misleads", byMost(2, "2406").told(1), 2);
        dueClasses(byMost(2, "2406"), 1, "0101");
        // Neighbours alone are LIKE: four are enough if h goes with a, not a with b.
        dueClasses(byMost(1, "12345670"), 1, "01122330");
        classesAtOnce();
        sentence("Terms", "CLASSES are numbered by their least LETTERS;");
        dueClasses(byMost(0, "75317531"), 1, "01230123");
        SightSpacing y = byMost(0, "7531");
        y.forget(0);
        dueClasses(y, 1, "-012");
        y.letter(7, 33333, 0, 1);
        dueClasses(y, 1, "-012---1");
        sentence("Terms", "of several such partings that by which the least LETTER is in the CLASS of the least number, "
                + "then the next one, and so on.");
        dueClasses(byMost(2, "204"), 1, "001");
        dueClasses(byMost(2, "024"), 1, "001");
        dueClasses(byMost(2, "420"), 1, "001");
        dueClasses(byMost(1, "12345"), 1, "00112");
        dueClasses(byMost(1, "54321"), 1, "00112");
        dueClasses(byMost(1, "13524"), 1, "01201");
    }

    /** Two LETTERS that are not LIKE, and a deed behind which CLASSES are others, asked at once in each way. */
    private static void dueAtOnce(String name, Call deed, int count, int gap) {
        Call[] ways = {x -> x.told(1), x -> x.told(2), x -> x.at(0, 1) == 0 ? count : UNKNOWN, x -> x.at(1, 1) + 1,
            x -> x.at(1, 2) + 1, x -> x.told(5) == count * count ? count : UNKNOWN,
            x -> x.cell(count - 1, count - 1, 0) > 0 ? count : UNKNOWN, x -> x.cell(count, 0, 0) == UNKNOWN ? count : UNKNOWN,
            x -> x.line(count * count - 1, 0) - '0' + 1};
        for (int k = 0; k < ways.length; k++) {
            SightSpacing x = uniform("09", "09");
            x.judge(0, 0, 4);
            x.keep(1);
            x.told(1);
            deed.on(x);
            due("CLASSES at once behind " + name + ", " + k, ways[k].on(x), count);
        }
        Call[] gaps = {x -> x.pair(1, 1, 0), x -> x.word(2, 1, 1, 0, 0, 0) - 1000 + 100 - 2 * x.at(1, 0),
            x -> x.pair(1, 1, 2) + gap, x -> x.judge(1, 1, gap - 100)};
        for (int k = 0; k < gaps.length; k++) {
            SightSpacing x = uniform("09", "09");
            x.judge(0, 0, 4);
            x.keep(1);
            x.told(1);
            deed.on(x);
            due("GAP at once behind " + name + ", " + k, gaps[k].on(x), gap);
        }
    }

    private static void classesAtOnce() {
        dueAtOnce("nothing", x -> 0, 2, 100 - 12);
        dueAtOnce("letter()", x -> x.letter(1, 0, 0, 1), 1, 104);
        dueAtOnce("term(0, 45)", x -> x.term(0, 45), 1, 104);
        dueAtOnce("term(0, 9), BY 1", x -> x.term(0, 9) + x.term(4, 1), 1, 104);
        dueAtOnce("tell()", x -> tell(x, "a99999/99999,1;"), 1, 104);
        dueAtOnce("forget(), letter()", x -> x.forget(1) + x.letter(1, 0, 0, 1), 1, 104);
        dueAtOnce("forget(), letter(), letter()", x -> x.forget(1) + x.letter(2, 0, 0, 1) + x.letter(1, 0, 0, 1), 1, 104);
        dueAtOnce("forget(), term()", x -> x.letter(2, 0, 0, 1) + x.forget(2) + x.term(0, 45), 1, 104);
        dueAtOnce("withdraw(), judge(), term()", x -> x.withdraw(0, 0) + x.judge(0, 0, 4) + x.term(0, 45), 1, 104);
        dueAtOnce("letter(), undone", x -> x.letter(1, 0, 0, 1) + x.told(1) + x.undo(1), 2, 100 - 12);
        dueAtOnce("term(), goBack()", x -> x.term(0, 99) + x.told(1) + x.goBack(1), 2, 100 - 12);
        SightSpacing x = uniform("09", "09");
        due("told(1)", x.told(1), 2);
        x.forget(0);
        due("told(1) at once behind forget()", x.told(1), 1);
        SightSpacing y = uniform("0", "0");
        due("told(1)", y.told(1), 1);
        y.term(0, 0);
        Draws draws = new Draws(0);
        draws.known = 1;
        draws.times(1);
        y.drift(1);
        due("told(1) at once behind drift()", y.told(1), draws.letter == 0 ? 1 : 2);
        SightSpacing z = uniform("09", "09");
        due("judge() at once behind letter()", z.judge(0, 0, 1), 101);
        due("judge() in another CELL", z.judge(1, 1, 4), 104);
        z.term(0, 99);
        due("judge() at once behind term(), in the same CELL", z.judge(1, 1, 4), 103);
    }

    /** 'a' alone, with 'aa' JUDGED so: WHITE by this gap. */
    private static void dueWhite(int cap, int gap, int want) {
        SightSpacing x = new SightSpacing();
        x.letter(0, 0, 1234, 1);
        x.term(2, cap);
        x.judge(0, 0, gap);
        due("WHITE with CAP " + cap + " by " + gap, x.pair(0, 0, 4), want);
    }

    private static void dueSight(String left, String right, int cap, int aim, int want) {
        SightSpacing x = uniform(left, right);
        x.term(2, cap);
        x.term(3, aim);
        due("SIGHT of " + right + left + " with CAP " + cap + ", AIM " + aim, x.pair(0, 0, 3) - 100, want);
    }

    private static void whites() {
        mark("Terms", "```text WHITE");
        sentence("Terms", "WHITE of a pair by a gap g: for each of the five heights RIGHT of the first, LEFT of the second and g "
                + "together, but no less than 0, and no more than CAP; together.");
        dueWhite(9, -20, 0);
        dueWhite(9, -4, 0);
        dueWhite(9, -3, 1);
        dueWhite(9, -2, 1 + 2);
        dueWhite(9, 0, 0 + 1 + 2 + 3 + 4);
        dueWhite(9, 5, 5 + 6 + 7 + 8 + 9);
        dueWhite(9, 6, 6 + 7 + 8 + 9 + 9);
        dueWhite(9, 7, 7 + 8 + 9 + 9 + 9);
        dueWhite(9, 20, 45);
        dueWhite(1, -2, 2);
        dueWhite(1, 1, 5);
        dueWhite(1, 20, 5);
        dueWhite(20, 16, 16 + 17 + 18 + 19 + 20);
        dueWhite(20, 17, 17 + 18 + 19 + 20 + 20);
        dueWhite(20, 20, 100);
        SightSpacing x = new SightSpacing();
        x.letter(0, 90000, 1, 1);
        x.letter(1, 20, 300, 1);
        x.judge(0, 1, 0);
        x.judge(1, 0, 0);
        due("WHITE of ab: RIGHT of a, LEFT of b", x.pair(0, 1, 4), 1 + 2);
        due("WHITE of ba: RIGHT of b, LEFT of a", x.pair(1, 0, 4), 9 + 3);
        sentence("Terms", "SIGHT of a pair: the least g from -20 to 20 by which WHITE is AIM or more; 20, if there is none.");
        dueSight("0", "0", 9, 0, -20);
        dueSight("9", "9", 20, 0, -20);
        dueSight("0", "0", 9, 1, 1);
        dueSight("0", "0", 9, 5, 1);
        dueSight("0", "0", 9, 6, 2);
        dueSight("0", "0", 9, 45, 9);
        dueSight("0", "0", 9, 46, 20);
        dueSight("0", "0", 9, 99, 20);
        dueSight("9", "9", 9, 1, -17);
        dueSight("9", "9", 9, 5, -17);
        dueSight("9", "9", 9, 6, -16);
        dueSight("9", "9", 9, 46, 20);
        dueSight("0", "0", 1, 5, 1);
        dueSight("0", "0", 1, 6, 20);
        dueSight("0", "0", 20, 95, 19);
        dueSight("0", "0", 20, 96, 20);
        dueSight("0", "0", 20, 99, 20);
        dueSight("1", "0", 20, 99, 19);
    }

    private static void dueCell(SightSpacing x, int i, int j, int... want) {
        for (int what = 0; what < want.length; what++) {
            due("cell(" + i + ", " + j + ", " + what + ")", x.cell(i, j, what), want[what]);
        }
    }

    private static void cells() {
        sentence("Terms", "A CELL, of a CLASS i of RIGHT and a CLASS j of LEFT EDGES: pairs whose first LETTER is in i, whose "
                + "second is in j.");
        // RIGHT: a b c | d, LEFT: a | b c | d.
        SightSpacing x = uniform("0449", "0009");
        x.term(0, 0);
        int[][] want = {{3, 6, 3}, {1, 2, 1}};
        for (int i = 0; i < 2; i++) {
            for (int j = 0; j < 3; j++) {
                due("cell(" + i + ", " + j + ", 0)", x.cell(i, j, 0), want[i][j]);
            }
        }
        x.judge(3, 1, 5);
        due("cell(1, 1, 1)", x.cell(1, 1, 1), 1);
        due("cell(0, 2, 1): the other way round", x.cell(0, 2, 1), 0);
        // The pair's own CELL: da and dc are in two, ba and ca in one.
        x.withdraw(3, 1);
        x.judge(1, 0, 1);
        due("pair(2, 0, 0): in the CELL of ba", x.pair(2, 0, 0), 101);
        x.judge(2, 0, 9);
        due("pair(2, 0, 2): STRANGE in the CELL of ba", x.pair(2, 0, 2), 1);
        x.judge(3, 0, 9);
        due("pair(3, 0, 2): alone in its CELL", x.pair(3, 0, 2), 0);
        x.judge(1, 2, 9);
        due("pair(1, 2, 2): alone in its CELL", x.pair(1, 2, 2), 0);
        due("pair(1, 1, 0): in the CELL of bc", x.pair(1, 1, 0), 109);
        due("pair(0, 3, 1): not JUDGED", x.pair(0, 3, 1), NONE);
        due("pair(0, 3, 0): SIGHT", x.pair(0, 3, 0), 97);
        sentence("Terms", "KEPT: as many JUDGED ones of these as can be, no two of whose gaps are more than twice ODD apart; "
                + "of several choices that with the least gap in it.");
        dueCell(oneCell(2, 1, 5), 0, 0, 9, 2, 2, 103);
        dueCell(oneCell(2, 1, 6), 0, 0, 9, 2, 1, 101);
        dueCell(oneCell(2, 6, 1), 0, 0, 9, 2, 1, 101);
        dueCell(oneCell(0, 7, 7), 0, 0, 9, 2, 2, 107);
        dueCell(oneCell(0, 8, 7), 0, 0, 9, 2, 1, 107);
        dueCell(oneCell(0, 20, -20), 0, 0, 9, 2, 1, 80);
        dueCell(oneCell(20, -20, 20), 0, 0, 9, 2, 2, 100);
        dueCell(oneCell(19, -20, 18), 0, 0, 9, 2, 2, 99);
        dueCell(oneCell(19, -20, 19), 0, 0, 9, 2, 1, 80);
        dueCell(oneCell(19, 20, -18), 0, 0, 9, 2, 2, 101);
        dueCell(oneCell(1, 0, 5, 6), 0, 0, 9, 3, 2, 106);
        dueCell(oneCell(1, 6, 5, 1, 0), 0, 0, 9, 4, 2, 101);
        dueCell(oneCell(1, 1, 2, 3, 4), 0, 0, 9, 4, 3, 102);
        dueCell(oneCell(1, 4, 3, 2, 1), 0, 0, 9, 4, 3, 102);
        dueCell(oneCell(1, 20, 20, 19, 18, -20, -19), 0, 0, 9, 6, 4, 119);
        dueCell(oneCell(2), 0, 0, 9, 0, 0);
        dueCell(oneCell(0, 3, 3, 3, 3, 3, 3, 3, 3, 3), 0, 0, 9, 9, 9, 103);
        sentence("Terms", "Other JUDGED ones are STRANGE.");
        SightSpacing y = oneCell(2, 1, 5, 6);
        due("pair(0, 0, 2): KEPT", y.pair(0, 0, 2), 0);
        due("pair(0, 1, 2): KEPT, twice ODD above", y.pair(0, 1, 2), 0);
        due("pair(0, 2, 2): one more", y.pair(0, 2, 2), 1);
        due("pair(1, 0, 2): not JUDGED", y.pair(1, 0, 2), 0);
        due("told(4)", y.told(4), 1);
        SightSpacing z = oneCell(2, 6, 5, 1, 10, 10);
        due("pair(0, 2, 2): below", z.pair(0, 2, 2), 1);
        due("pair(0, 1, 2): one below those that are KEPT", z.pair(0, 1, 2), 1);
        due("pair(0, 0, 2): the least that is KEPT", z.pair(0, 0, 2), 0);
        due("pair(1, 1, 2): the greatest that is KEPT", z.pair(1, 1, 2), 0);
        due("told(4)", z.told(4), 2);
    }

    private static void means() {
        sentence("Terms", "MEAN of a CELL: of gaps of KEPT ones; of SIGHT of all its pairs, if none is JUDGED.");
        // SIGHT of each pair is 6 with AIM 30.
        dueCell(oneCell(2), 0, 0, 9, 0, 0, 106, 106, 1);
        dueCell(oneCell(2, 0), 0, 0, 9, 1, 1, 100, 100, 1);
        dueCell(oneCell(2, 0, 20), 0, 0, 9, 2, 1, 100, 100, 1);
        dueCell(oneCell(2, 0, 1), 0, 0, 9, 2, 2, 101, 201, 2);
        SightSpacing x = oneCell(2, 0);
        x.withdraw(0, 0);
        dueCell(x, 0, 0, 9, 0, 0, 106, 106, 1);
        // SIGHTS 6, 4, 4, 2 (RIGHT and LEFT together 0, 2, 2, 4).
        SightSpacing y = uniform("02", "02");
        y.term(0, 10);
        dueCell(y, 0, 0, 4, 0, 0, 104, 104, 1);
        SightSpacing z = uniform("01", "00");
        z.term(0, 5);
        dueCell(z, 0, 0, 4, 0, 0, 106, 211, 2);
        sentence("Terms", "GAP of a CELL: the whole number nearest to MEAN, the greater of two.");
        int[][] gaps = {{0, 1}, {-1, 0}, {-3, -4}, {-20, -19}, {19, 20}, {0, 0, 1}, {0, 1, 1}, {-1, -1, 0}, {-1, 0, 0},
            {0, 0, 0, 1}, {0, 0, 1, 1}, {0, 1, 1, 1}, {-20}, {20}, {-20, 20}, {-20, 20, 20}, {20, -20, -20}};
        int[] want = {1, 0, -3, -19, 20, 0, 1, -1, 0, 0, 1, 1, -20, 20, 0, 7, -7};
        for (int k = 0; k < gaps.length; k++) {
            due("GAP of " + Arrays.toString(gaps[k]), oneCell(20, gaps[k]).cell(0, 0, 3) - 100, want[k]);
        }
    }

    private static void gapsOfPairs() {
        sentence("Terms", "GAP of a pair: what it is JUDGED, if it is STRANGE; else that of its CELL.");
        SightSpacing x = oneCell(2, 1, 5, 6, -20);
        // 1 and 5 are KEPT, not 5 and 6: there are as many, and 1 is the least.
        due("GAP of one that is KEPT", x.pair(0, 0, 0), 103);
        due("GAP of one that is KEPT", x.pair(0, 1, 0), 103);
        due("GAP of one that is not JUDGED", x.pair(2, 2, 0), 103);
        due("GAP of a STRANGE one", x.pair(0, 2, 0), 106);
        due("GAP of a STRANGE one", x.pair(1, 0, 0), 80);
        SightSpacing y = oneCell(0, 1, 1, 20);
        due("GAP of a STRANGE one", y.pair(0, 2, 0), 120);
        due("GAP of one that is not JUDGED", y.pair(2, 0, 0), 101);
        sentence("Terms", "MISS of a JUDGED pair: by how much its gap is apart from its GAP.");
        due("MISSES of none", oneCell(2).told(6), 0);
        due("MISSES of 1, 5, 6 and -20: of those that are KEPT", x.told(6), 2 + 2 + 0 + 0);
        due("MISSES of -20 and 20", oneCell(20, -20, 20).told(6), 40);
        due("MISSES of -20 and 20 with ODD 19", oneCell(19, -20, 20).told(6), 0);
        due("MISSES of 0 and 1", oneCell(2, 0, 1).told(6), 1);
        due("MISSES of 7, 7", oneCell(2, 7, 7).told(6), 0);
    }

    // ---- terms: section 3

    /** All pairs of eight LETTERS in one CELL JUDGED -20 to 20 and on from -20 again, with ODD 0. */
    private static SightSpacing allStrange() {
        SightSpacing x = eight();
        x.term(1, 0);
        for (int k = 0; k < 64; k++) {
            x.judge(k / 8, k % 8, k % 41 - 20);
        }
        return x;
    }

    private static void asking() {
        sentence("Terms", "======== 3 ASKED, nothing changes by it.");
        Call[] calls = {
            x -> x.fault(), x -> x.told(0), x -> x.told(5), x -> x.told(6), x -> x.told(14), x -> x.edge(0, 1, 4),
            x -> x.at(1, 2), x -> x.far(0, 1, 1), x -> x.pair(0, 0, 0), x -> x.pair(3, 2, 4), x -> x.cell(0, 0, 5),
            x -> x.line(0, 0), x -> x.line(1, 99), x -> x.word(5, 0, 1, 2, 3, 0),
        };
        for (int k = 0; k < calls.length; k++) {
            changesNothing(SightSpacingBoundaries::rich, "asked " + k, calls[k], calls[k].on(rich()));
        }
    }

    private static void table() {
        sentence("Terms", "THE TABLE: LINES: for each CELL, by i, then j: \"i/j gap\" (e.g. \"0/2 -3\");");
        SightSpacing x = eightApart();
        for (int l = 0; l < 64; l++) {
            due("line " + l, line(x, l), l / 8 + "/" + l % 8 + " " + (6 - l / 8 - l % 8));
        }
        due("line(64, 0)", x.line(64, 0), UNKNOWN);
        SightSpacing few = uniform("09", "00");
        due("line 0", line(few, 0), "0/0 6");
        due("line 1", line(few, 1), "0/1 -3");
        due("line(2, 0)", few.line(2, 0), UNKNOWN);
        sentence("Terms", "then for each STRANGE pair, by its LETTERS: \"xy gap\" (e.g. \"ac 12\");");
        SightSpacing y = allStrange();
        due("line 0", line(y, 0), "0/0 -20");
        int l = 1;
        for (int k = 0; k < 64; k++) {
            // aa and fb are KEPT: two are JUDGED -20, as many as of any.
            if (k != 0 && k != 41) {
                due("line " + l, line(y, l), "" + (char) ('a' + k / 8) + (char) ('a' + k % 8) + " " + (k % 41 - 20));
                l++;
            }
        }
        due("line(63, 0)", y.line(63, 0), UNKNOWN);
        sentence("Terms", "numbers in figures, '-' ahead, one blank between.");
        int[] gaps = {-20, -10, -9, -1, 0, 1, 9, 10, 20};
        for (int gap : gaps) {
            SightSpacing z = uniform("0", "0");
            z.judge(0, 0, gap);
            due("line 0", line(z, 0), "0/0 " + gap);
            SightSpacing v = oneCell(0, 5, 5, gap);
            due("line 1", line(v, 1), "ac " + gap);
        }
        sentence("Terms", "SIZE: how many LINES.");
        due("told(5) of none", new SightSpacing().told(5), 0);
        due("told(5) of one LETTER", uniform("0", "0").told(5), 1);
        due("told(5) of 64 CELLS", eightApart().told(5), 64);
        due("told(5) of one CELL with 62 STRANGE ones", allStrange().told(5), 63);
        due("told(5) of one CELL, one STRANGE", oneCell(0, 5, 5, 6).told(5), 2);
    }

    private static void theBook() {
        mark("Terms", "```text THE BOOK");
        sentence("Terms", "(20 at most) tells GAP of a pair:");
        SightSpacing x = two();
        for (int k = 1; k <= 20; k++) {
            due("write(0, 1, 6)", x.write(0, 1, 6), k);
        }
        due("write(0, 1, 6), the 21st", x.write(0, 1, 6), FULL);
        due("told(13)", x.told(13), 20);
        due("told(14)", x.told(14), NONE);
        due("tear()", x.tear(), 20);
        for (int k = 1; k <= 19; k++) {
            due("write(1, 1, 6)", x.write(1, 1, 6), k);
        }
        due("told(14) of 19", x.told(14), NONE);
        due("write(1, 1, 7), the 20th again", x.write(1, 1, 7), 20);
        due("told(14): the last", x.told(14), 19);
        due("write(1, 1, 7)", x.write(1, 1, 7), FULL);
        sentence("Terms", "WRONG: the first that is otherwise now (a LETTER that is not KNOWN any more: it is, too); NONE.");
        SightSpacing y = two();
        due("told(14) without entries", y.told(14), NONE);
        y.write(0, 0, 6);
        y.write(1, 0, 5);
        y.write(1, 1, 7);
        y.write(0, 1, 6);
        due("told(14): the first of two", y.told(14), 1);
        y.judge(0, 0, 5);
        due("told(14): the first is otherwise now", y.told(14), 0);
        y.undo(1);
        due("told(14): no more", y.told(14), 1);
        y.tear();
        y.write(0, 0, 6);
        y.write(0, 1, 6);
        y.write(1, 0, 6);
        due("told(14)", y.told(14), NONE);
        y.forget(1);
        due("told(14): the second LETTER is not KNOWN", y.told(14), 1);
        y.letter(1, 0, 0, 1);
        due("told(14): it is KNOWN again", y.told(14), NONE);
        y.forget(0);
        due("told(14): the first LETTER is not KNOWN", y.told(14), 0);
        SightSpacing first = two();
        first.write(1, 0, 6);
        first.forget(1);
        due("told(14): the first LETTER alone is not KNOWN", first.told(14), 0);
        SightSpacing apart = uniform("09", "04");
        apart.write(0, 1, -3);
        apart.write(1, 0, 2);
        due("told(14): each entry is of its own pair", apart.told(14), NONE);
        apart.write(1, 0, -3);
        due("told(14)", apart.told(14), 2);
        int[] gaps = {-20, 0, 20};
        for (int gap : gaps) {
            SightSpacing z = two();
            z.judge(0, 0, gap);
            z.write(0, 0, gap);
            due("told(14) of " + gap, z.told(14), NONE);
            z.write(0, 0, gap + 1);
            due("told(14) of one more", z.told(14), 1);
            z.tear();
            z.write(0, 0, gap - 1);
            due("told(14) of one less", z.told(14), 0);
        }
    }

    /** BY DRAWS as the document tells it, in long, where nothing wraps. */
    private static final class Draws {
        private long seed;
        private int known = 0;
        private int letter = 0;
        private int second = 0;
        private int gap = 0;
        private int width = 0;
        private final int[] figures = new int[10];

        Draws(long seed) {
            this.seed = seed;
        }

        int draw(int n) {
            seed = (seed * 1103515245L + 12345L) % 2147483648L;
            return (int) (seed / 65536 % n);
        }

        void times(int n) {
            for (int k = 0; k < n; k++) {
                letter = draw(8);
                if ((known >> letter) % 2 == 0) {
                    for (int f = 0; f < 10; f++) {
                        figures[f] = draw(5);
                    }
                    width = draw(9) + 1;
                    known += 1 << letter;
                } else {
                    second = draw(8);
                    gap = draw(9) - 4;
                }
            }
        }
    }

    private static void seeds() {
        sentence("Terms", "BY DRAWS: THE SEED (0 at first: each DRAW it becomes it times 1103515245 and 12345, left over by 2 to "
                + "the 31; the DRAW of n is it / 65536, left over by n):");
        due("told(16) at first", new SightSpacing().told(16), 0);
        int[] seeds = {0, 1, 2, 65535, 65536, 12345, 1103515245, 1073741823, 1073741824, 2147483646, 2147483647};
        for (int seed : seeds) {
            SightSpacing x = new SightSpacing();
            x.seed(seed);
            Draws draws = new Draws(seed);
            draws.times(1);
            due("drift(1) from " + seed, x.drift(1), draws.known);
            due("told(16) from " + seed, x.told(16), draws.seed);
            for (int k = 0; k < 40; k++) {
                draws.times(12);
                due("drift(12) on from " + seed, x.drift(12), draws.known);
                due("told(16) on from " + seed, x.told(16), draws.seed);
            }
        }
        sentence("Terms", "n times: a DRAW of 8 is a LETTER; if it is not KNOWN: ten DRAWS of 5 (LEFT, then RIGHT), one of 9, and 1 "
                + "(WIDTH): it is KNOWN so;");
        int lettersSeen = 0;
        int figuresSeen = 0;
        int widthsSeen = 0;
        for (int seed = 0; seed < 200; seed++) {
            SightSpacing x = new SightSpacing();
            x.seed(seed * 10007);
            Draws draws = new Draws(seed * 10007);
            draws.times(1);
            due("drift(1)", x.drift(1), 1 << draws.letter);
            lettersSeen |= 1 << draws.letter;
            for (int f = 0; f < 10; f++) {
                due("edge " + f, x.edge(draws.letter, f / 5, f % 5), draws.figures[f]);
                figuresSeen |= 1 << draws.figures[f];
            }
            due("at(.., 0)", x.at(draws.letter, 0), draws.width);
            widthsSeen |= 1 << draws.width;
            due("told(3)", x.told(3), 0);
        }
        due("all of 8 came", lettersSeen, 255);
        due("all of 5 came", figuresSeen, 31);
        due("all of 1 to 9 came", widthsSeen, 1022);
    }

    private static void driftsOfPairs() {
        sentence("Terms", "if it is: a DRAW of 8 (the second LETTER), of 9, less 4: JUDGED so, if the second one is KNOWN "
                + "(else nothing comes of it; it is a deed, too).");
        int gapsSeen = 0;
        int nothing = 0;
        int same = 0;
        for (int seed = 0; seed < 400; seed++) {
            Draws draws = new Draws(seed * 10007);
            draws.known = 0b01111110;
            draws.times(1);
            if (draws.letter == 0 || draws.letter == 7) {
                continue;
            }
            SightSpacing x = eight();
            x.forget(0);
            x.forget(7);
            x.keep(0);
            x.seed(seed * 10007);
            due("drift(1)", x.drift(1), 0b01111110);
            due("told(16): three DRAWS", x.told(16), draws.seed);
            due("told(15): a deed", x.told(15), 1);
            boolean known = draws.second > 0 && draws.second < 7;
            due("told(3)", x.told(3), known ? 1 : 0);
            due("pair(.., 1)", x.pair(draws.letter, draws.second, 1), known ? draws.gap + 100 : UNKNOWN);
            gapsSeen |= known ? 1 << draws.gap + 4 : 0;
            nothing += known ? 0 : 1;
            same += draws.letter == draws.second ? 1 : 0;
        }
        due("all of -4 to 4 came", gapsSeen, 511);
        due("some came to nothing", nothing > 3 ? 1 : 0, 1);
        due("some were of one LETTER twice", same > 3 ? 1 : 0, 1);
    }

    private static void dueDeed(String name, Call call, int deeds) {
        SightSpacing x = rich();
        String before = all(x);
        int had = x.told(15);
        call.on(x);
        due("told(15) behind " + name, x.told(15) - had, deeds);
        if (deeds > 0) {
            SightSpacing y = rich();
            call.on(y);
            y.undo(deeds);
            y.seed(4711);
            give(y, "odd 5;".substring(y.told(12)));
            due("all behind " + name + ", undone", all(y), before);
        }
    }

    private static void deeds() {
        sentence("Terms", "UNDONE: the latest deeds (tell(), not with a FAULT; letter(), forget(), judge(), withdraw(), term(), "
                + "each time BY DRAWS:");
        dueDeed("tell()", x -> x.tell(), 1);
        dueDeed("tell() of a LETTER, a pair, TERMS", x -> tell(x, "e11111/22222,3;ee:4;like 50;by most;"), 1);
        dueDeed("tell() with a FAULT", x -> tell(x, ";"), 0);
        dueDeed("letter()", x -> x.letter(4, 1, 2, 3), 1);
        dueDeed("letter() of one that is KNOWN", x -> x.letter(0, 1, 2, 3), 1);
        dueDeed("forget()", x -> x.forget(0), 1);
        dueDeed("judge()", x -> x.judge(2, 2, 3), 1);
        dueDeed("withdraw()", x -> x.withdraw(0, 1), 1);
        for (int k = 0; k < 5; k++) {
            int which = k;
            dueDeed("term(" + k + ", 1)", x -> x.term(which, 1), 1);
        }
        for (int k = 1; k <= 9; k++) {
            int n = k;
            dueDeed("drift(" + n + ")", x -> x.drift(n), n);
        }
        dueDeed("feed()", x -> x.feed(32), 0);
        dueDeed("write()", x -> x.write(0, 0, 0), 0);
        dueDeed("tear()", x -> x.tear(), 0);
        dueDeed("seed()", x -> x.seed(5), 0);
        dueDeed("fault()", x -> x.fault(), 0);
        dueDeed("undo(1)", x -> x.undo(1), -1);
        sentence("Terms", "all that were not refused, be it that they changed nothing)");
        dueDeed("letter() as it is", x -> x.letter(0, 12345, 54321, 3), 1);
        dueDeed("judge() as it is", x -> x.judge(0, 1, 3), 1);
        dueDeed("term() as it is", x -> x.term(3, 27), 1);
        dueDeed("tell() as it is", x -> {
            x.tell();
            x.undo(1);
            return tell(x, "aim 27;");
        }, 1);
        dueDeed("tell() of nothing", x -> {
            x.tell();
            x.undo(1);
            return x.tell();
        }, 1);
        dueDeed("letter(), refused", x -> x.letter(0, 0, 0, 0), 0);
        dueDeed("forget(), refused", x -> x.forget(4), 0);
        dueDeed("judge(), refused", x -> x.judge(0, 1, 21), 0);
        dueDeed("withdraw(), refused", x -> x.withdraw(1, 1), 0);
        dueDeed("term(), refused", x -> x.term(2, 0), 0);
        dueDeed("drift(), refused", x -> x.drift(13), 0);
    }

    private static void undone() {
        sentence("Terms", "since the IMAGE (16 at most are kept):");
        SightSpacing x = new SightSpacing();
        for (int k = 1; k <= 18; k++) {
            x.term(3, k);
            due("told(15) behind " + k, x.told(15), Math.min(k, 16));
        }
        due("undo(16)", x.undo(16), 0);
        due("told(10): as ahead of the third", x.told(10), 2);
        due("told(15)", x.told(15), 0);
        due("undo(1)", x.undo(1), NOT);
        SightSpacing y = new SightSpacing();
        y.term(3, 1);
        y.keep(1);
        due("told(15) behind keep", y.told(15), 0);
        due("undo(1) behind keep", y.undo(1), NOT);
        y.term(3, 2);
        due("told(15) behind one more", y.told(15), 1);
        due("undo(2)", y.undo(2), NOT);
        y.goBack(1);
        due("told(15) behind goBack", y.told(15), 0);
        due("undo(1) behind goBack", y.undo(1), NOT);
        y.term(3, 5);
        due("undo(1)", y.undo(1), 0);
        due("told(10)", y.told(10), 1);
        roundAgain();
        sentence("Terms", "all of section 1 (but THE TEXT) is as ahead of them;");
        SightSpacing z = rich();
        z.letter(4, 1, 2, 3);
        z.forget(0);
        z.judge(4, 4, 4);
        z.term(0, 1);
        z.term(1, 1);
        z.term(2, 1);
        z.term(3, 1);
        z.term(4, 1);
        z.withdraw(3, 2);
        due("undo(9)", z.undo(9), 15);
        due("all", all(z), all(rich()));
        SightSpacing v = two();
        give(v, "odd");
        v.term(3, 5);
        give(v, " 3;");
        v.undo(1);
        due("told(12): THE TEXT stays", v.told(12), 6);
        due("tell()", v.tell(), 1);
        sentence("Terms", "THE SEED, THE BOOK stay.");
        SightSpacing u = two();
        u.seed(7);
        u.drift(2);
        int seed = u.told(16);
        u.write(0, 1, 5);
        u.term(3, 9);
        u.write(1, 1, 5);
        due("undo(3)", u.undo(3), 3);
        due("told(16)", u.told(16), seed);
        due("told(13)", u.told(13), 2);
    }

    /** Deeds and their undoing many times round, beside a list of all values. */
    private static void roundAgain() {
        SightSpacing x = new SightSpacing();
        int[] values = new int[300];
        values[0] = 30;
        int top = 0;
        int can = 0;
        for (int k = 0; k < 25; k++) {
            for (int n = 0; n < 3 + k % 7; n++) {
                top++;
                values[top] = (17 * top + k) % 100;
                x.term(3, values[top]);
                can = Math.min(16, can + 1);
            }
            int n = 1 + k * 5 % 7;
            if (n <= can) {
                due("undo(" + n + ")", x.undo(n), 0);
                top -= n;
                can -= n;
            } else {
                due("undo(" + n + ")", x.undo(n), NOT);
            }
            due("told(10) round " + k, x.told(10), values[top]);
            due("told(15) round " + k, x.told(15), can);
        }
    }

    private static void imagesOfTerms() {
        sentence("Terms", "IMAGES 0, 1 keep all of section 1 (but THE TEXT), THE SEED.");
        for (int i = 0; i < 2; i++) {
            SightSpacing x = rich();
            SightSpacing twin = rich();
            x.keep(i);
            twin.keep(i);
            x.letter(0, 1, 2, 9);
            x.forget(1);
            x.judge(2, 2, 5);
            for (int which = 0; which < 5; which++) {
                x.term(which, 1);
            }
            x.drift(5);
            due("goBack(" + i + ")", x.goBack(i), 1);
            due("all", all(x), all(twin));
            SightSpacing y = rich();
            y.keep(i);
            y.write(1, 1, 0);
            y.feed(32);
            y.goBack(i);
            due("THE BOOK is not kept", y.told(13), 3);
            due("THE TEXT is not kept", y.told(12), 7);
            SightSpacing z = two();
            z.keep(i);
            tell(z, " ;");
            z.goBack(i);
            due("the FAULT is of the latest tell()", z.fault(), 1);
        }
        SightSpacing x = rich();
        due("keep(-1)", x.keep(-1), UNKNOWN);
        due("keep(2)", x.keep(2), UNKNOWN);
        mark("Terms", "Ahead of the calls `feed`, `tell`, `fault`, `told`, `edge`, `at`, `far`, `pair`, `cell`, `line`, `word` "
                + "the interface says: ---- told.");
        mark("Terms", "Ahead of the calls `letter`, `forget`, `judge`, `withdraw`, `term`, `drift`, `undo` the interface says: "
                + "---- deeds.");
        mark("Terms", "Ahead of the calls `write`, `tear` the interface says: ---- the book.");
        mark("Terms", "Ahead of the calls `seed`, `keep`, `goBack` the interface says: ---- images.");
    }

    // ---- promises

    /** The head of a promise, which says nothing but how the call is written, and its number. */
    private static void head(int number, String call) {
        mark("Promise " + number, "`" + call + "`:");
    }

    private static void newObject() {
        head(1, "SightSpacing()");
        sentence("Promise 1", "No LETTER is KNOWN.");
        SightSpacing used = rich();
        SightSpacing x = new SightSpacing();
        due("told(0)", x.told(0), 0);
        for (int c = 0; c < 8; c++) {
            due("forget(" + c + ")", x.forget(c), UNKNOWN);
        }
        int[] want = {0, 0, 0, 0, 0, 0, 0, 4, 2, 9, 30, 0, 0, 0, NONE, 0, 0};
        for (int what = 0; what < want.length; what++) {
            due("told(" + what + ")", x.told(what), want[what]);
        }
        due("fault()", x.fault(), NONE);
        due("goBack(0): the other one's IMAGE", x.goBack(0), NOT);
        due("told(0) of the other one", used.told(0), 15);
    }

    private static void feeding() {
        head(2, "int feed(int letter)");
        sentence("Promise 2", "A letter (0 .. 255) comes behind THE TEXT: how many it has.");
        SightSpacing x = new SightSpacing();
        due("feed(0)", x.feed(0), 1);
        due("feed(255)", x.feed(255), 2);
        due("feed(-1)", x.feed(-1), OUTSIDE);
        due("feed(256)", x.feed(256), OUTSIDE);
        due("feed(353): not as 97", x.feed(353), OUTSIDE);
        due("feed(32)", x.feed(32), 3);
        x.tell();
        due("feed(32) behind tell()", x.feed(32), 1);
        SightSpacing y = new SightSpacing();
        give(y, "odd ");
        due("feed('7')", y.feed('7'), 5);
        due("feed(';')", y.feed(';'), 6);
        due("tell(): behind, not ahead", y.tell(), 1);
        due("told(8)", y.told(8), 7);
        sentence("Promise 2", "OUTSIDE, FULL (150).");
        SightSpacing z = new SightSpacing();
        for (int k = 1; k <= 150; k++) {
            due("feed(32)", z.feed(32), k);
        }
        due("feed(32), the 151st", z.feed(32), FULL);
        due("feed(256), the 151st", z.feed(256), OUTSIDE);
        due("told(12)", z.told(12), 150);
        due("tell()", z.tell(), 0);
        due("feed(32) again", z.feed(32), 1);
    }

    private static void telling() {
        head(3, "int tell()");
        sentence("Promise 3", "THE TEXT (it is empty then, with a FAULT, too) is told: how many clauses;");
        SightSpacing x = new SightSpacing();
        due("tell() of an empty one", x.tell(), 0);
        due("tell() of one clause", tell(x, "odd 3;"), 1);
        due("told(12)", x.told(12), 0);
        due("tell() again", x.tell(), 0);
        due("told(8) stays", x.told(8), 3);
        due("tell() with a FAULT", tell(x, "odd 4"), -11);
        due("told(12) behind a FAULT", x.told(12), 0);
        due("tell() again", x.tell(), 0);
        due("tell(): nothing is left of it", tell(x, ";"), -11);
        sentence("Promise 3", "-10 less the number of its FAULT (nothing is told then).");
        String[] texts = {"c11111/11111,1;like 50;odd 9;cap 7;aim 99;by most;aa:5;a22222/22222,2;;",
            "c11111/11111,1;like 50;odd 9;cap 7;aim 99;by most;aa:5;a22222/22222,2;aim 100;",
            "c11111/11111,1;like 50;odd 9;cap 7;aim 99;by most;aa:5;a22222/22222,2;dd:1;"};
        for (int k = 0; k < 3; k++) {
            SightSpacing y = two();
            tell(y, texts[k].substring(0, 70));
            SightSpacing z = two();
            due("tell() with FAULT " + (k + 1), tell(z, texts[k]), -11 - k);
            due("told(15)", z.told(15), 2);
            tell(z, "");
            z.undo(1);
            due("all but the FAULT", all(z), all(two()));
            due("the clauses ahead of it, alone, would be told", y.told(0), 7);
        }
    }

    private static void faultPlaces() {
        head(4, "int fault()");
        sentence("Promise 4", "The place (from 0 on) of the letter that has the FAULT of the latest tell(); NONE.");
        SightSpacing x = new SightSpacing();
        due("fault() ahead of all", x.fault(), NONE);
        tell(x, "!");
        due("fault() at the first letter", x.fault(), 0);
        due("fault() again", x.fault(), 0);
        tell(x, " ".repeat(149) + "!");
        due("fault() at the last letter", x.fault(), 149);
        tell(x, " ".repeat(149) + "a");
        due("fault() at the end", x.fault(), 150);
        x.letter(0, 0, 0, 1);
        x.keep(0);
        x.goBack(0);
        x.term(0, 0);
        x.undo(1);
        give(x, "odd 3;");
        due("fault() of the latest tell()", x.fault(), 150);
        x.tell();
        due("fault() of a text without one", x.fault(), NONE);
        tell(x, "odd 3;;");
        due("fault()", x.fault(), 6);
        x.tell();
        due("fault() of a text without clauses", x.fault(), NONE);
    }

    private static void tolds() {
        head(5, "int told(int what)");
        SightSpacing none = new SightSpacing();
        sentence("Promise 5", "0 KNOWN LETTERS (a SET),");
        due("none", none.told(0), 0);
        due("all", eight().told(0), 255);
        sentence("Promise 5", "1 CLASSES of LEFT EDGES, 2 of RIGHT ones,");
        due("none, LEFT", none.told(1), 0);
        due("none, RIGHT", none.told(2), 0);
        SightSpacing x = uniform("02468024", "00000000");
        due("five of LEFT EDGES", x.told(1), 5);
        due("one of RIGHT ones", x.told(2), 1);
        due("eight, LEFT", eightApart().told(1), 8);
        due("eight, RIGHT", eightApart().told(2), 8);
        sentence("Promise 5", "3 JUDGED pairs, 4 STRANGE ones, 5 SIZE,");
        SightSpacing strange = allStrange();
        due("none JUDGED", none.told(3), 0);
        due("all JUDGED", strange.told(3), 64);
        due("none STRANGE", none.told(4), 0);
        due("as many as can be STRANGE", strange.told(4), 62);
        due("SIZE of none", none.told(5), 0);
        due("SIZE", strange.told(5), 63);
        due("SIZE of 64 CELLS", eightApart().told(5), 64);
        sentence("Promise 5", "6 MISSES of all JUDGED pairs together,");
        due("none", none.told(6), 0);
        SightSpacing y = eight();
        y.term(1, 20);
        for (int k = 0; k < 64; k++) {
            y.judge(k / 8, k % 8, k % 2 == 0 ? -20 : 20);
        }
        due("as much as can be", y.told(6), 64 * 20);
        due("of STRANGE ones", strange.told(6), 0);
        toldsOn(none);
    }

    private static void toldsOn(SightSpacing none) {
        sentence("Promise 5", "7 to 11 LIKE, ODD, CAP, AIM, BY,");
        SightSpacing x = new SightSpacing();
        int[] values = {99, 20, 19, 98, 2};
        for (int k = 0; k < 5; k++) {
            x.term(k, values[k]);
        }
        for (int k = 0; k < 5; k++) {
            due("told(" + (7 + k) + ")", x.told(7 + k), values[k]);
        }
        sentence("Promise 5", "12 letters of THE TEXT, 13 entries of THE BOOK, 14 WRONG,");
        SightSpacing full = full();
        due("no letters", none.told(12), 0);
        due("150 letters", full.told(12), 150);
        due("no entries", none.told(13), 0);
        due("20 entries", full.told(13), 20);
        due("none WRONG", none.told(14), NONE);
        due("the first WRONG", full.told(14), 1);
        sentence("Promise 5", "15 how many can be undone, 16 THE SEED. OUTSIDE.");
        due("none", none.told(15), 0);
        due("16", full.told(15), 16);
        due("THE SEED at first", none.told(16), 0);
        x.seed(MOST);
        due("THE SEED", x.told(16), MOST);
        due("told(-1)", x.told(-1), OUTSIDE);
        due("told(17)", x.told(17), OUTSIDE);
    }

    private static void edgesAndAt() {
        head(6, "int edge(int c, int side, int h)");
        sentence("Promise 6", "Number h (0 .. 4) of an EDGE (SIDE 0, 1) of a LETTER. UNKNOWN, OUTSIDE.");
        SightSpacing x = new SightSpacing();
        x.letter(7, 12345, 67890, 1);
        x.letter(0, 0, 0, 1);
        due("edge(7, 0, 0)", x.edge(7, 0, 0), 1);
        due("edge(7, 0, 4)", x.edge(7, 0, 4), 5);
        due("edge(7, 1, 0)", x.edge(7, 1, 0), 6);
        due("edge(7, 1, 4)", x.edge(7, 1, 4), 0);
        due("edge(7, 0, -1)", x.edge(7, 0, -1), OUTSIDE);
        due("edge(7, 0, 5)", x.edge(7, 0, 5), OUTSIDE);
        due("edge(7, -1, 0)", x.edge(7, -1, 0), OUTSIDE);
        due("edge(7, 2, 0)", x.edge(7, 2, 0), OUTSIDE);
        due("edge(6, 0, 0)", x.edge(6, 0, 0), UNKNOWN);
        due("edge(8, 0, 0)", x.edge(8, 0, 0), UNKNOWN);
        due("edge(-1, 0, 0)", x.edge(-1, 0, 0), UNKNOWN);
        due("edge(39, 0, 0): not as 7", x.edge(39, 0, 0), UNKNOWN);
        x.forget(7);
        due("edge(7, 0, 0), forgotten", x.edge(7, 0, 0), UNKNOWN);
        head(7, "int at(int c, int what)");
        sentence("Promise 7", "Of a LETTER: what = 0 WIDTH, 1 its CLASS of LEFT EDGES, 2 of RIGHT ones. UNKNOWN, OUTSIDE.");
        SightSpacing y = uniform("01234567", "77777770");
        y.term(0, 0);
        y.letter(7, 77777, 0, 9);
        due("at(0, 0)", y.at(0, 0), 1);
        due("at(7, 0)", y.at(7, 0), 9);
        due("at(7, 1)", y.at(7, 1), 7);
        due("at(7, 2)", y.at(7, 2), 1);
        due("at(0, 1)", y.at(0, 1), 0);
        due("at(0, -1)", y.at(0, -1), OUTSIDE);
        due("at(0, 3)", y.at(0, 3), OUTSIDE);
        due("at(8, 0)", y.at(8, 0), UNKNOWN);
        due("at(-1, 0)", y.at(-1, 0), UNKNOWN);
        due("at(32, 0): not as 0", y.at(32, 0), UNKNOWN);
        y.forget(0);
        due("at(0, 0), forgotten", y.at(0, 0), UNKNOWN);
        due("at(1, 1): numbered anew", y.at(1, 1), 0);
        head(8, "int far(int c, int d, int side)");
        sentence("Promise 8", "FAR of EDGES of a SIDE of two LETTERS. UNKNOWN, OUTSIDE.");
        SightSpacing z = uniform("09", "01");
        due("far(0, 1, 0)", z.far(0, 1, 0), 45);
        due("far(0, 1, 1)", z.far(0, 1, 1), 5);
        due("far(1, 1, 0)", z.far(1, 1, 0), 0);
        due("far(0, 1, -1)", z.far(0, 1, -1), OUTSIDE);
        due("far(0, 1, 2)", z.far(0, 1, 2), OUTSIDE);
        due("far(0, 2, 0)", z.far(0, 2, 0), UNKNOWN);
        due("far(2, 0, 0)", z.far(2, 0, 0), UNKNOWN);
        due("far(0, -1, 0)", z.far(0, -1, 0), UNKNOWN);
        due("far(-1, 0, 0)", z.far(-1, 0, 0), UNKNOWN);
        due("far(0, 8, 0)", z.far(0, 8, 0), UNKNOWN);
    }

    private static void pairs() {
        head(9, "int pair(int c, int d, int what)");
        sentence("Promise 9", "Of a pair: what = 0 GAP and 100, 1 what it is JUDGED and 100 (NONE: it is not),");
        int[] gaps = {-20, -1, 0, 1, 20};
        for (int gap : gaps) {
            SightSpacing x = two();
            due("pair(0, 1, 1) ahead of it", x.pair(0, 1, 1), NONE);
            x.judge(0, 1, gap);
            due("pair(0, 1, 0)", x.pair(0, 1, 0), gap + 100);
            due("pair(0, 1, 1)", x.pair(0, 1, 1), gap + 100);
            due("pair(1, 0, 0): in the CELL, too", x.pair(1, 0, 0), gap + 100);
            due("pair(1, 0, 1): the other way round", x.pair(1, 0, 1), NONE);
            x.withdraw(0, 1);
            due("pair(0, 1, 1) behind withdraw", x.pair(0, 1, 1), NONE);
        }
        sentence("Promise 9", "2 1 STRANGE, 0 not, 3 SIGHT and 100, 4 WHITE by its GAP.");
        SightSpacing y = oneCell(2, 1, 1, 5, 6);
        due("KEPT", y.pair(0, 2, 2), 0);
        due("STRANGE", y.pair(1, 0, 2), 1);
        due("not JUDGED", y.pair(2, 2, 2), 0);
        due("SIGHT, be it JUDGED or not", y.pair(1, 0, 3), 106);
        y.term(3, 0);
        due("the least SIGHT", y.pair(0, 0, 3), 80);
        y.term(3, 99);
        due("the greatest SIGHT", y.pair(0, 0, 3), 120);
        due("WHITE by GAP of its CELL (2)", y.pair(0, 0, 4), 10);
        due("WHITE by what a STRANGE one is JUDGED", y.pair(1, 0, 4), 30);
        due("WHITE of one that is not JUDGED", y.pair(2, 2, 4), 10);
        sentence("Promise 9", "UNKNOWN, OUTSIDE.");
        due("pair(0, 0, -1)", y.pair(0, 0, -1), OUTSIDE);
        due("pair(0, 0, 5)", y.pair(0, 0, 5), OUTSIDE);
        due("pair(0, 3, 0)", y.pair(0, 3, 0), UNKNOWN);
        due("pair(3, 0, 0)", y.pair(3, 0, 0), UNKNOWN);
        due("pair(0, -1, 0)", y.pair(0, -1, 0), UNKNOWN);
        due("pair(8, 0, 0)", y.pair(8, 0, 0), UNKNOWN);
    }

    private static void cellsOfPromise() {
        head(10, "int cell(int i, int j, int what)");
        sentence("Promise 10", "Of a CELL: what = 0 its pairs (how many), 1 JUDGED ones, 2 KEPT ones, 3 GAP and 100,");
        dueCell(uniform("0", "0"), 0, 0, 1, 0, 0, 106);
        dueCell(eight(), 0, 0, 64, 0, 0, 106);
        dueCell(allStrange(), 0, 0, 64, 64, 2, 80);
        SightSpacing x = eight();
        for (int k = 0; k < 64; k++) {
            x.judge(k / 8, k % 8, 20);
        }
        dueCell(x, 0, 0, 64, 64, 64, 120);
        sentence("Promise 10", "4, 5 MEAN and 100 as a fraction in least terms: above, below the line.");
        dueCell(x, 0, 0, 64, 64, 64, 120, 120, 1);
        x.judge(7, 7, 19);
        dueCell(x, 0, 0, 64, 64, 64, 120, 120 * 64 - 1, 64);
        x.judge(7, 6, 19);
        dueCell(x, 0, 0, 64, 64, 64, 120, 120 * 32 - 1, 32);
        dueCell(oneCell(20, -20), 0, 0, 9, 1, 1, 80, 80, 1);
        dueCell(oneCell(20, 0), 0, 0, 9, 1, 1, 100, 100, 1);
        dueCell(oneCell(20, -1, 0, 0), 0, 0, 9, 3, 3, 100, 299, 3);
        dueCell(oneCell(20, -1, 0, 0, -1, 0, 0), 0, 0, 9, 6, 6, 100, 299, 3);
        dueCell(oneCell(20, 1, 0, 0, 0), 0, 0, 9, 4, 4, 100, 401, 4);
        sentence("Promise 10", "UNKNOWN (CLASSES), OUTSIDE.");
        SightSpacing y = uniform("09", "00");
        due("cell(0, 1, 0)", y.cell(0, 1, 0), 2);
        due("cell(1, 0, 0): one CLASS of RIGHT EDGES", y.cell(1, 0, 0), UNKNOWN);
        due("cell(0, 2, 0)", y.cell(0, 2, 0), UNKNOWN);
        due("cell(-1, 0, 0)", y.cell(-1, 0, 0), UNKNOWN);
        due("cell(0, -1, 0)", y.cell(0, -1, 0), UNKNOWN);
        due("cell(0, 0, -1)", y.cell(0, 0, -1), OUTSIDE);
        due("cell(0, 0, 6)", y.cell(0, 0, 6), OUTSIDE);
        due("cell(7, 7, 0) of eight", eightApart().cell(7, 7, 0), 1);
        due("cell(8, 7, 0) of eight", eightApart().cell(8, 7, 0), UNKNOWN);
        due("cell(7, 8, 0) of eight", eightApart().cell(7, 8, 0), UNKNOWN);
        due("cell(0, 0, 0) of none", new SightSpacing().cell(0, 0, 0), UNKNOWN);
    }

    private static void lines() {
        head(11, "int line(int l, int k)");
        sentence("Promise 11", "Letter k of LINE l of THE TABLE; NONE: it has not so many. UNKNOWN (LINE), OUTSIDE (k below 0).");
        SightSpacing x = oneCell(0, 5, 5, -12);
        String[] want = {"0/0 5", "ac -12"};
        for (int l = 0; l < 2; l++) {
            for (int k = 0; k < want[l].length(); k++) {
                due("line(" + l + ", " + k + ")", x.line(l, k), want[l].charAt(k));
            }
            due("line(" + l + ", behind its last)", x.line(l, want[l].length()), NONE);
            due("line(" + l + ", " + MOST + ")", x.line(l, MOST), NONE);
            due("line(" + l + ", -1)", x.line(l, -1), OUTSIDE);
            due("line(" + l + ", " + LEAST + ")", x.line(l, LEAST), OUTSIDE);
        }
        due("line(2, 0)", x.line(2, 0), UNKNOWN);
        due("line(-1, 0)", x.line(-1, 0), UNKNOWN);
        due("line(0, 0) of none", new SightSpacing().line(0, 0), UNKNOWN);
        x.withdraw(0, 2);
        due("line(1, 0): not STRANGE any more", x.line(1, 0), UNKNOWN);
    }

    private static void wordsOfPromise() {
        head(12, "int word(int n, int a, int b, int c, int d, int e)");
        sentence("Promise 12", "How wide a word of n LETTERS (1 .. 5; the first n of these) is: WIDTHS, and GAPS of neighbours, "
                + "and 1000.");
        SightSpacing x = new SightSpacing();
        x.letter(0, 0, 0, 9);
        x.letter(1, 99999, 99999, 1);
        x.judge(0, 0, 20);
        due("word of one", x.word(1, 0, 0, 0, 0, 0), 1009);
        due("the widest", x.word(5, 0, 0, 0, 0, 0), 1045 + 80);
        // GAPS: ab, ba -3, bb -12.
        due("ab", x.word(2, 0, 1, 0, 0, 0), 1010 - 3);
        due("abb", x.word(3, 0, 1, 1, 0, 0), 1011 - 15);
        due("abba", x.word(4, 0, 1, 1, 0, 0), 1020 - 18);
        due("abbaa", x.word(5, 0, 1, 1, 0, 0), 1029 - 18 + 20);
        x.judge(1, 1, -20);
        due("the least wide", x.word(5, 1, 1, 1, 1, 1), 1005 - 80);
        sentence("Promise 12", "OUTSIDE (n; ahead of UNKNOWN), UNKNOWN (of those n).");
        due("word(0, ..)", x.word(0, 0, 0, 0, 0, 0), OUTSIDE);
        due("word(6, ..)", x.word(6, 0, 0, 0, 0, 0), OUTSIDE);
        due("word(0, ..) of none KNOWN", x.word(0, 2, 2, 2, 2, 2), OUTSIDE);
        due("word(6, ..) of none KNOWN", x.word(6, 2, 2, 2, 2, 2), OUTSIDE);
        int[] unknown = {-1, 2, 8};
        for (int other : unknown) {
            for (int at = 0; at < 5; at++) {
                int[] c = {0, 0, 0, 0, 0};
                c[at] = other;
                for (int n = 1; n <= 5; n++) {
                    int want = at < n ? UNKNOWN : 1000 + 9 * n + 20 * (n - 1);
                    due("word(" + n + ", " + Arrays.toString(c) + ")", x.word(n, c[0], c[1], c[2], c[3], c[4]), want);
                }
            }
        }
    }

    private static void deedsOfLetters() {
        head(13, "int letter(int c, int left, int right, int width)");
        sentence("Promise 13", "A LETTER (0 .. 7) is KNOWN, with EDGES told as five figures each, the first the highest (0 .. 99999), "
                + "and a WIDTH: how many are. OUTSIDE.");
        SightSpacing x = new SightSpacing();
        for (int c = 7; c >= 0; c--) {
            due("letter(" + c + ", ..)", x.letter(c, 0, 99999, 1 + c), 8 - c);
        }
        due("letter(0, ..) of one that is KNOWN", x.letter(0, 10000, 1, 9), 8);
        due("edge(0, 0, 0): the first figure", x.edge(0, 0, 0), 1);
        due("edge(0, 0, 4)", x.edge(0, 0, 4), 0);
        due("edge(0, 1, 0)", x.edge(0, 1, 0), 0);
        due("edge(0, 1, 4): the last figure", x.edge(0, 1, 4), 1);
        due("letter(-1, ..)", x.letter(-1, 0, 0, 1), OUTSIDE);
        due("letter(8, ..)", x.letter(8, 0, 0, 1), OUTSIDE);
        due("letter(0, -1, ..)", x.letter(0, -1, 0, 1), OUTSIDE);
        due("letter(0, 100000, ..)", x.letter(0, 100000, 0, 1), OUTSIDE);
        due("letter(0, 0, -1, ..)", x.letter(0, 0, -1, 1), OUTSIDE);
        due("letter(0, 0, 100000, ..)", x.letter(0, 0, 100000, 1), OUTSIDE);
        due("letter(0, 0, 0, 0)", x.letter(0, 0, 0, 0), OUTSIDE);
        due("letter(0, 0, 0, 10)", x.letter(0, 0, 0, 10), OUTSIDE);
        head(14, "int forget(int c)");
        sentence("Promise 14", "A LETTER is not KNOWN any more, its pairs are not JUDGED: how many are. UNKNOWN.");
        SightSpacing y = eight();
        int[][] pairs = {{0, 7}, {7, 0}, {7, 7}, {0, 0}};
        for (int[] p : pairs) {
            y.judge(p[0], p[1], 0);
        }
        due("forget(7)", y.forget(7), 7);
        due("told(3): 'aa' alone", y.told(3), 1);
        due("forget(7) again", y.forget(7), UNKNOWN);
        y.letter(7, 0, 0, 1);
        due("pair(0, 7, 1) of a new one", y.pair(0, 7, 1), NONE);
        due("pair(7, 0, 1) of a new one", y.pair(7, 0, 1), NONE);
        due("pair(7, 7, 1) of a new one", y.pair(7, 7, 1), NONE);
        for (int c = 0; c < 8; c++) {
            due("forget(" + c + ")", y.forget(c), 7 - c);
        }
        due("told(0)", y.told(0), 0);
        due("told(3)", y.told(3), 0);
        due("forget(0) of none", y.forget(0), UNKNOWN);
        due("forget(-1)", y.forget(-1), UNKNOWN);
        due("forget(8)", y.forget(8), UNKNOWN);
    }

    private static void deedsOfPairs() {
        head(15, "int judge(int c, int d, int gap)");
        sentence("Promise 15", "A pair is JUDGED: its GAP then and 100. UNKNOWN, OUTSIDE.");
        SightSpacing x = two();
        due("judge(0, 0, -20)", x.judge(0, 0, -20), 80);
        due("judge(0, 0, 20)", x.judge(0, 0, 20), 120);
        due("judge(0, 0, 0)", x.judge(0, 0, 0), 100);
        due("judge(0, 1, 4): MEAN of both", x.judge(0, 1, 4), 102);
        due("judge(1, 0, 5): STRANGE", x.judge(1, 0, 5), 105);
        due("pair(0, 0, 2)", x.pair(0, 0, 2), 0);
        due("judge(1, 1, 5): 4, 5 and 5 are KEPT now", x.judge(1, 1, 5), 105);
        due("pair(0, 0, 2)", x.pair(0, 0, 2), 1);
        due("pair(0, 1, 0)", x.pair(0, 1, 0), 105);
        due("judge(0, 0, -21)", x.judge(0, 0, -21), OUTSIDE);
        due("judge(0, 0, 21)", x.judge(0, 0, 21), OUTSIDE);
        due("judge(0, 2, 0)", x.judge(0, 2, 0), UNKNOWN);
        due("judge(2, 0, 0)", x.judge(2, 0, 0), UNKNOWN);
        due("judge(0, -1, 0)", x.judge(0, -1, 0), UNKNOWN);
        due("judge(8, 0, 0)", x.judge(8, 0, 0), UNKNOWN);
        due("told(3)", x.told(3), 4);
        head(16, "int withdraw(int c, int d)");
        sentence("Promise 16", "A pair is not JUDGED any more: what it was and 100. UNKNOWN, NOT: it was not.");
        int[] gaps = {-20, 0, 20};
        for (int gap : gaps) {
            SightSpacing y = two();
            due("withdraw(0, 1) ahead of it", y.withdraw(0, 1), NOT);
            y.judge(0, 1, gap);
            due("withdraw(1, 0): the other way round", y.withdraw(1, 0), NOT);
            due("withdraw(0, 1)", y.withdraw(0, 1), gap + 100);
            due("told(3)", y.told(3), 0);
            due("withdraw(0, 1) again", y.withdraw(0, 1), NOT);
        }
        due("withdraw(1, 0): what it was, not its GAP", x.withdraw(1, 0), 105);
        due("withdraw(0, 2)", x.withdraw(0, 2), UNKNOWN);
        due("withdraw(2, 0)", x.withdraw(2, 0), UNKNOWN);
        due("withdraw(-1, 0)", x.withdraw(-1, 0), UNKNOWN);
        due("withdraw(0, 8)", x.withdraw(0, 8), UNKNOWN);
        SightSpacing z = oneCell(2, 0, 4);
        due("withdraw(0, 1): what it was, not its GAP", z.withdraw(0, 1), 104);
        head(17, "int term(int which, int v)");
        sentence("Promise 17", "A TERM (0 LIKE, 1 ODD, 2 CAP, 3 AIM, 4 BY) is v: what it was. OUTSIDE.");
        SightSpacing v = new SightSpacing();
        int[] first = {4, 2, 9, 30, 0};
        int[] least = {0, 0, 1, 0, 0};
        int[] most = {99, 20, 20, 99, 2};
        for (int k = 0; k < 5; k++) {
            due("term(" + k + ", most)", v.term(k, most[k]), first[k]);
            due("term(" + k + ", most + 1)", v.term(k, most[k] + 1), OUTSIDE);
            due("term(" + k + ", least)", v.term(k, least[k]), most[k]);
            due("term(" + k + ", least - 1)", v.term(k, least[k] - 1), OUTSIDE);
            due("term(" + k + ", least) again", v.term(k, least[k]), least[k]);
        }
        due("term(-1, 1)", v.term(-1, 1), OUTSIDE);
        due("term(5, 1)", v.term(5, 1), OUTSIDE);
    }

    private static void driftsAndUndo() {
        head(18, "int drift(int n)");
        sentence("Promise 18", "n times BY DRAWS (1 .. 12): KNOWN LETTERS (a SET). OUTSIDE.");
        for (int n = 1; n <= 12; n++) {
            SightSpacing x = new SightSpacing();
            Draws draws = new Draws(0);
            draws.times(n);
            due("drift(" + n + ")", x.drift(n), draws.known);
            due("told(16)", x.told(16), draws.seed);
            due("told(15)", x.told(15), n);
        }
        SightSpacing y = new SightSpacing();
        due("drift(0)", y.drift(0), OUTSIDE);
        due("drift(-1)", y.drift(-1), OUTSIDE);
        due("drift(13)", y.drift(13), OUTSIDE);
        due("told(16)", y.told(16), 0);
        due("drift(12) with all KNOWN", eight().drift(12), 255);
        head(19, "int undo(int n)");
        sentence("Promise 19", "The n latest (1 .. 16) are undone: KNOWN LETTERS (a SET). OUTSIDE, NOT: not so many.");
        SightSpacing z = eight();
        due("undo(9) of eight", z.undo(9), NOT);
        due("undo(1)", z.undo(1), 127);
        due("undo(8) of seven", z.undo(8), NOT);
        due("undo(7)", z.undo(7), 0);
        due("undo(1) of none", z.undo(1), NOT);
        due("undo(0)", z.undo(0), OUTSIDE);
        due("undo(17)", z.undo(17), OUTSIDE);
        SightSpacing v = new SightSpacing();
        for (int k = 0; k < 15; k++) {
            v.term(3, k);
        }
        due("undo(16) of 15", v.undo(16), NOT);
        v.term(3, 15);
        due("undo(16) of 16", v.undo(16), 0);
        due("told(10): all is as at first", v.told(10), 30);
        for (int k = 0; k < 17; k++) {
            v.term(3, k);
        }
        due("undo(17) of 17", v.undo(17), OUTSIDE);
        due("undo(16) of 17", v.undo(16), 0);
        due("told(10): the first stays", v.told(10), 0);
        due("undo(1) of none", v.undo(1), NOT);
    }

    private static void bookAndImages() {
        head(20, "int write(int c, int d, int v)");
        sentence("Promise 20", "An entry behind THE BOOK (GAP of a pair is v, any): how many. UNKNOWN, FULL (20).");
        SightSpacing x = two();
        int[] any = {LEAST, -21, -1, 0, 21, 106, MOST};
        for (int k = 0; k < any.length; k++) {
            due("write(0, 1, " + any[k] + ")", x.write(0, 1, any[k]), k + 1);
        }
        due("write(0, 2, 0)", x.write(0, 2, 0), UNKNOWN);
        due("write(2, 0, 0)", x.write(2, 0, 0), UNKNOWN);
        due("write(-1, 0, 0)", x.write(-1, 0, 0), UNKNOWN);
        due("write(0, 8, 0)", x.write(0, 8, 0), UNKNOWN);
        for (int k = any.length; k < 20; k++) {
            due("write(1, 1, 6)", x.write(1, 1, 6), k + 1);
        }
        due("write(1, 1, 6), the 21st", x.write(1, 1, 6), FULL);
        due("write(2, 1, 6), the 21st", x.write(2, 1, 6), UNKNOWN);
        due("told(14): the first stays the first", x.told(14), 0);
        for (int v : any) {
            SightSpacing y = two();
            y.write(0, 1, 6);
            y.write(0, 1, v);
            due("told(14) of " + v, y.told(14), 1);
        }
        head(21, "int tear()");
        sentence("Promise 21", "No BOOK: how much it had.");
        due("tear() of 20", x.tear(), 20);
        due("tear() of none", x.tear(), 0);
        due("told(13)", x.told(13), 0);
        due("told(14)", x.told(14), NONE);
        due("write(0, 0, 6)", x.write(0, 0, 6), 1);
        due("told(14): nothing is left of it", x.told(14), NONE);
        due("tear() of one", x.tear(), 1);
        due("tear() of a new one", new SightSpacing().tear(), 0);
        head(22, "int seed(int v)");
        sentence("Promise 22", "THE SEED becomes v (0 .. 2147483647): what it was. OUTSIDE.");
        SightSpacing z = new SightSpacing();
        due("seed(2147483647)", z.seed(2147483647), 0);
        due("seed(-1)", z.seed(-1), OUTSIDE);
        due("seed(-2147483648)", z.seed(-2147483648), OUTSIDE);
        due("seed(0)", z.seed(0), 2147483647);
        due("seed(1)", z.seed(1), 0);
        due("told(16)", z.told(16), 1);
        images();
    }

    private static void images() {
        head(23, "int keep(int i)");
        sentence("Promise 23", "IMAGE i becomes what is so (nothing can be undone then): 1. UNKNOWN.");
        SightSpacing x = two();
        due("keep(-1)", x.keep(-1), UNKNOWN);
        due("keep(2)", x.keep(2), UNKNOWN);
        due("told(15)", x.told(15), 2);
        due("keep(0)", x.keep(0), 1);
        due("told(15)", x.told(15), 0);
        due("undo(1)", x.undo(1), NOT);
        x.forget(0);
        due("keep(1)", x.keep(1), 1);
        due("told(15)", x.told(15), 0);
        x.forget(1);
        due("keep(1) again", x.keep(1), 1);
        x.goBack(0);
        due("told(0) of IMAGE 0", x.told(0), 3);
        x.goBack(1);
        due("told(0) of IMAGE 1: the latest", x.told(0), 0);
        due("keep(0) of none KNOWN", x.keep(0), 1);
        x.letter(5, 0, 0, 1);
        due("keep(1): IMAGE 0 stays", x.keep(1), 1);
        x.goBack(0);
        due("told(0)", x.told(0), 0);
        head(24, "int goBack(int i)");
        sentence("Promise 24", "What is so becomes IMAGE i (nothing can be undone then): 1. UNKNOWN, NOT: it was not kept.");
        SightSpacing y = two();
        due("goBack(0)", y.goBack(0), NOT);
        due("goBack(1)", y.goBack(1), NOT);
        due("goBack(-1)", y.goBack(-1), UNKNOWN);
        due("goBack(2)", y.goBack(2), UNKNOWN);
        due("told(15)", y.told(15), 2);
        y.keep(1);
        due("goBack(0): the other one was", y.goBack(0), NOT);
        y.forget(1);
        due("goBack(1)", y.goBack(1), 1);
        due("told(0)", y.told(0), 3);
        due("told(15)", y.told(15), 0);
        due("undo(1)", y.undo(1), NOT);
        y.forget(0);
        due("goBack(1) again", y.goBack(1), 1);
        due("told(0)", y.told(0), 3);
        y.letter(2, 0, 0, 1);
        due("undo(1): back to the IMAGE", y.undo(1), 3);
        mark("Not promised", SECTIONS.isEmpty() ? "" : SECTIONS.get("Not promised"));
    }

    public static void main(String[] args) throws IOException {
        readDocument();
        whatItIs();
        face();
        numbers();
        orderOfRefusals();
        refused();
        letters();
        terms();
        judgements();
        clauses();
        letterClauses();
        pairClauses();
        termClauses();
        wordsOfTexts();
        numbersOfTexts();
        blanks();
        faults();
        howFar();
        classes();
        whites();
        cells();
        means();
        gapsOfPairs();
        asking();
        table();
        theBook();
        seeds();
        driftsOfPairs();
        deeds();
        undone();
        imagesOfTerms();
        newObject();
        feeding();
        telling();
        faultPlaces();
        tolds();
        edgesAndAt();
        pairs();
        cellsOfPromise();
        lines();
        wordsOfPromise();
        deedsOfLetters();
        deedsOfPairs();
        driftsAndUndo();
        bookAndImages();
        lookForWordsUntold();
        System.out.println(sentences + " sentences, " + asked + " answers asked, " + wrong + " not as due");
        if (wrong != 0) {
            System.exit(1);
        }
    }
}
