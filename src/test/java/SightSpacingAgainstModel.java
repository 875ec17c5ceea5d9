import java.util.ArrayDeque;
import java.util.ArrayList;
import java.util.Arrays;
import java.util.Collections;
import java.util.Deque;
import java.util.List;
import java.util.Map;
import java.util.Random;
import java.util.TreeMap;

/**
 * Runs of calls at random (the same ones each time), each answer beside that of a second program,
 * written from ../shared/DOC.md in another way: all partings tried out, all choices of KEPT ones by sorted lists,
 * THE TEXT read by tokens, nothing stored that can be derived.
 */
public final class SightSpacingAgainstModel {
    private static final int NONE = -1;
    private static final int UNKNOWN = -1000000001;
    private static final int OUTSIDE = -1000000002;
    private static final int NOT = -1000000003;
    private static final int FULL = -1000000004;
    private static final int RUNS = 1000;
    private static final int CALLS = 512;

    private record Shape(String left, String right, int width) {
        String side(int side) {
            return side == 0 ? left : right;
        }
    }

    /** A token of THE TEXT: 'w' a word, 'n' figures side by side, else the letter itself; 0 the end. */
    private record Token(char kind, int start, String text) { }

    private static final class Fault extends Exception {
        private static final long serialVersionUID = 1;
        private final int number;
        private final int place;

        Fault(int number, int place) {
            this.number = number;
            this.place = place;
        }
    }

    private static final class World {
        private final Map<Integer, Shape> shapes = new TreeMap<>();
        private final Map<Integer, Integer> gaps = new TreeMap<>();
        private final int[] terms = {4, 2, 9, 30, 0};

        World copy() {
            World w = new World();
            w.shapes.putAll(shapes);
            w.gaps.putAll(gaps);
            System.arraycopy(terms, 0, w.terms, 0, 5);
            return w;
        }

        int set() {
            return shapes.keySet().stream().mapToInt(c -> 1 << c).sum();
        }

        boolean pairKnown(int c, int d) {
            return shapes.containsKey(c) && shapes.containsKey(d);
        }

        int far(int c, int d, int side) {
            String a = shapes.get(c).side(side);
            String b = shapes.get(d).side(side);
            int[] by = new int[5];
            for (int h = 0; h < 5; h++) {
                by[h] = Math.abs(a.charAt(h) - b.charAt(h));
            }
            return switch (terms[4]) {
                case 0 -> Arrays.stream(by).sum();
                case 1 -> Arrays.stream(by).max().getAsInt();
                default -> Arrays.stream(by).map(v -> v * v).sum();
            };
        }

        /** The CLASS of each KNOWN LETTER, by its place among them. */
        List<Integer> parting(int side) {
            List<Integer> known = new ArrayList<>(shapes.keySet());
            boolean[][] like = new boolean[known.size()][known.size()];
            for (int a = 0; a < known.size(); a++) {
                for (int b = 0; b < known.size(); b++) {
                    like[a][b] = far(known.get(a), known.get(b), side) <= terms[0];
                }
            }
            List<List<Integer>> all = new ArrayList<>();
            all.add(new ArrayList<>());
            for (int k = 0; k < known.size(); k++) {
                List<List<Integer>> longer = new ArrayList<>();
                for (List<Integer> start : all) {
                    for (int to = 0; to <= count(start); to++) {
                        if (fits(like, start, to)) {
                            List<Integer> next = new ArrayList<>(start);
                            next.add(to);
                            longer.add(next);
                        }
                    }
                }
                all = longer;
            }
            return Collections.min(all, (p, q) ->
                    count(p) != count(q) ? count(p) - count(q) : p.toString().compareTo(q.toString()));
        }

        private static boolean fits(boolean[][] like, List<Integer> start, int to) {
            for (int a = 0; a < start.size(); a++) {
                if (start.get(a) == to && !like[a][start.size()]) {
                    return false;
                }
            }
            return true;
        }

        static int count(List<Integer> parting) {
            return parting.isEmpty() ? 0 : Collections.max(parting) + 1;
        }

        int white(int c, int d, int g) {
            int sum = 0;
            for (int h = 0; h < 5; h++) {
                int room = shapes.get(c).right.charAt(h) + shapes.get(d).left.charAt(h) - 2 * '0' + g;
                sum += room < 0 ? 0 : room > terms[2] ? terms[2] : room;
            }
            return sum;
        }

        int sight(int c, int d) {
            int g = 20;
            while (g > -20 && white(c, d, g - 1) >= terms[3]) {
                g--;
            }
            return g;
        }
    }

    /** What follows from a world. */
    private static final class View {
        private final World w;
        private final List<Integer> known;
        private final List<Integer> lefts;
        private final List<Integer> rights;

        View(World w) {
            this.w = w;
            known = new ArrayList<>(w.shapes.keySet());
            lefts = w.parting(0);
            rights = w.parting(1);
        }

        int classOf(int c, int side) {
            return (side == 0 ? lefts : rights).get(known.indexOf(c));
        }

        List<Integer> cellPairs(int i, int j) {
            List<Integer> pairs = new ArrayList<>();
            for (int c : known) {
                for (int d : known) {
                    if (classOf(c, 1) == i && classOf(d, 0) == j) {
                        pairs.add(8 * c + d);
                    }
                }
            }
            return pairs;
        }

        List<Integer> judgedPairs(int i, int j) {
            List<Integer> pairs = cellPairs(i, j);
            pairs.removeIf(p -> !w.gaps.containsKey(p));
            return pairs;
        }

        List<Integer> keptPairs(int i, int j) {
            List<Integer> judged = judgedPairs(i, j);
            judged.sort((p, q) -> w.gaps.get(p) - w.gaps.get(q));
            List<Integer> best = new ArrayList<>();
            for (int from = 0; from < judged.size(); from++) {
                int to = from;
                while (to < judged.size()
                        && w.gaps.get(judged.get(to)) - w.gaps.get(judged.get(from)) <= 2 * w.terms[1]) {
                    to++;
                }
                if (to - from > best.size()) {
                    best = new ArrayList<>(judged.subList(from, to));
                }
            }
            return best;
        }

        int[] mean(int i, int j) {
            List<Integer> kept = keptPairs(i, j);
            int sum = 0;
            int count = 0;
            for (int p : kept.isEmpty() ? cellPairs(i, j) : kept) {
                sum += kept.isEmpty() ? w.sight(p / 8, p % 8) : w.gaps.get(p);
                count++;
            }
            return new int[] {sum, count};
        }

        int cellGap(int i, int j) {
            int[] m = mean(i, j);
            for (int g = 20; g > -20; g--) {
                // 2 |m - g| <= 1: within a half; from above, so the greater of two comes first.
                if (2 * Math.abs(m[0] - g * m[1]) <= m[1]) {
                    return g;
                }
            }
            return -20;
        }

        boolean strange(int p) {
            return w.gaps.containsKey(p) && !keptPairs(classOf(p / 8, 1), classOf(p % 8, 0)).contains(p);
        }

        int pairGap(int p) {
            return strange(p) ? w.gaps.get(p) : cellGap(classOf(p / 8, 1), classOf(p % 8, 0));
        }

        List<String> table() {
            List<String> lines = new ArrayList<>();
            for (int i = 0; i < World.count(rights); i++) {
                for (int j = 0; j < World.count(lefts); j++) {
                    lines.add(i + "/" + j + " " + cellGap(i, j));
                }
            }
            for (int p : w.gaps.keySet()) {
                if (strange(p)) {
                    lines.add("" + "abcdefgh".charAt(p / 8) + "abcdefgh".charAt(p % 8) + " " + w.gaps.get(p));
                }
            }
            return lines;
        }

        int misses() {
            return w.gaps.keySet().stream().mapToInt(p -> Math.abs(w.gaps.get(p) - pairGap(p))).sum();
        }
    }

    /** Reads THE TEXT token by token. */
    private static final class TokenReader {
        private final List<Token> tokens = new ArrayList<>();
        private final World w;
        private int at = 0;
        private int clauses = 0;

        TokenReader(String text, World w) {
            this.w = w;
            for (int k = 0; k < text.length();) {
                int end = k + 1;
                char kind = text.charAt(k);
                if (kind >= 'a' && kind <= 'z') {
                    while (end < text.length() && text.charAt(end) >= 'a' && text.charAt(end) <= 'z') {
                        end++;
                    }
                    kind = 'w';
                } else if (kind >= '0' && kind <= '9') {
                    while (end < text.length() && text.charAt(end) >= '0' && text.charAt(end) <= '9') {
                        end++;
                    }
                    kind = 'n';
                }
                tokens.add(new Token(kind, k, text.substring(k, end)));
                k = end;
            }
            tokens.add(new Token((char) 0xffff, text.length(), ""));
        }

        private Token peek() {
            while (tokens.get(at).kind == ' ') {
                at++;
            }
            return tokens.get(at);
        }

        private Token need(char kind) throws Fault {
            Token t = peek();
            if (t.kind != kind) {
                throw new Fault(1, t.start);
            }
            at++;
            return t;
        }

        private String edge() throws Fault {
            Token t = need('n');
            if (t.text.length() != 5) {
                throw new Fault(1, t.start + Math.min(5, t.text.length()));
            }
            return t.text;
        }

        private int number(int least, int most) throws Fault {
            Token t = need('n');
            if (t.text.length() > 2 || Integer.parseInt(t.text) < least || Integer.parseInt(t.text) > most) {
                throw new Fault(2, t.start);
            }
            return Integer.parseInt(t.text);
        }

        private void shape(int c) throws Fault {
            String left = edge();
            need('/');
            String right = edge();
            need(',');
            Token t = need('n');
            if (t.text.startsWith("0")) {
                throw new Fault(1, t.start);
            }
            if (t.text.length() > 1) {
                throw new Fault(1, t.start + 1);
            }
            need(';');
            w.shapes.put(c, new Shape(left, right, Integer.parseInt(t.text)));
        }

        private void judgement(Token pair) throws Fault {
            int c = pair.text.charAt(0) - 'a';
            int d = pair.text.charAt(1) - 'a';
            if (!w.pairKnown(c, d)) {
                throw new Fault(3, pair.start);
            }
            need(':');
            int sign = 1;
            if (peek().kind == '-') {
                at++;
                sign = -1;
            }
            int gap = number(0, 20);
            need(';');
            w.gaps.put(8 * c + d, sign * gap);
        }

        private void by() throws Fault {
            Token t = need('w');
            int v = List.of("sum", "most", "square").indexOf(t.text);
            if (v < 0) {
                throw new Fault(1, t.start);
            }
            need(';');
            w.terms[4] = v;
        }

        private void clause() throws Fault {
            Token t = need('w');
            int term = List.of("like", "odd", "cap", "aim").indexOf(t.text);
            if (t.text.matches("[a-h]")) {
                shape(t.text.charAt(0) - 'a');
            } else if (t.text.matches("[a-h][a-h]")) {
                judgement(t);
            } else if (term >= 0) {
                int v = number(term == 2 ? 1 : 0, term == 1 || term == 2 ? 20 : 99);
                need(';');
                w.terms[term] = v;
            } else if (t.text.equals("by")) {
                by();
            } else {
                throw new Fault(1, t.start);
            }
        }

        void all() throws Fault {
            while (peek().kind != (char) 0xffff) {
                clause();
                clauses++;
            }
        }
    }

    private static final class Model {
        private World w = new World();
        private View view = null;
        private final StringBuilder text = new StringBuilder();
        private int faultPlace = NONE;
        private final Deque<World> past = new ArrayDeque<>();
        private final List<int[]> book = new ArrayList<>();
        private final World[] images = new World[2];
        private final long[] imageSeeds = new long[2];
        private long seed = 0;

        private World deed() {
            past.addLast(w.copy());
            if (past.size() > 16) {
                past.removeFirst();
            }
            view = null;
            return w;
        }

        private View view() {
            if (view == null) {
                view = new View(w);
            }
            return view;
        }

        int feed(int letter) {
            if (letter < 0 || letter > 255) {
                return OUTSIDE;
            }
            if (text.length() == 150) {
                return FULL;
            }
            return text.append((char) letter).length();
        }

        int tell() {
            World draft = w.copy();
            TokenReader reader = new TokenReader(text.toString(), draft);
            text.setLength(0);
            try {
                reader.all();
            } catch (Fault f) {
                faultPlace = f.place;
                return -10 - f.number;
            }
            faultPlace = NONE;
            deed();
            w = draft;
            return reader.clauses;
        }

        int told(int what) {
            return switch (what) {
                case 0 -> w.set();
                case 1 -> World.count(view().lefts);
                case 2 -> World.count(view().rights);
                case 3 -> w.gaps.size();
                case 4 -> (int) w.gaps.keySet().stream().filter(p -> view().strange(p)).count();
                case 5 -> view().table().size();
                case 6 -> view().misses();
                case 7, 8, 9, 10, 11 -> w.terms[what - 7];
                case 12 -> text.length();
                case 13 -> book.size();
                case 14 -> wrongEntry();
                case 15 -> past.size();
                case 16 -> (int) seed;
                default -> OUTSIDE;
            };
        }

        private int wrongEntry() {
            for (int k = 0; k < book.size(); k++) {
                int[] e = book.get(k);
                if (!w.pairKnown(e[0], e[1]) || view().pairGap(8 * e[0] + e[1]) != e[2]) {
                    return k;
                }
            }
            return NONE;
        }

        int edge(int c, int side, int h) {
            if (!w.shapes.containsKey(c)) {
                return UNKNOWN;
            }
            return side < 0 || side > 1 || h < 0 || h > 4 ? OUTSIDE : w.shapes.get(c).side(side).charAt(h) - '0';
        }

        int at(int c, int what) {
            if (!w.shapes.containsKey(c)) {
                return UNKNOWN;
            }
            return what < 0 || what > 2 ? OUTSIDE : what == 0 ? w.shapes.get(c).width : view().classOf(c, what - 1);
        }

        int far(int c, int d, int side) {
            return !w.pairKnown(c, d) ? UNKNOWN : side < 0 || side > 1 ? OUTSIDE : w.far(c, d, side);
        }

        int pair(int c, int d, int what) {
            if (!w.pairKnown(c, d)) {
                return UNKNOWN;
            }
            int p = 8 * c + d;
            return switch (what) {
                case 0 -> view().pairGap(p) + 100;
                case 1 -> w.gaps.containsKey(p) ? w.gaps.get(p) + 100 : NONE;
                case 2 -> view().strange(p) ? 1 : 0;
                case 3 -> w.sight(c, d) + 100;
                case 4 -> w.white(c, d, view().pairGap(p));
                default -> OUTSIDE;
            };
        }

        int cell(int i, int j, int what) {
            if (i < 0 || j < 0 || i >= World.count(view().rights) || j >= World.count(view().lefts)) {
                return UNKNOWN;
            }
            int[] m = view().mean(i, j);
            int above = m[0] + 100 * m[1];
            int gcd = java.math.BigInteger.valueOf(above).gcd(java.math.BigInteger.valueOf(m[1])).intValue();
            return switch (what) {
                case 0 -> view().cellPairs(i, j).size();
                case 1 -> view().judgedPairs(i, j).size();
                case 2 -> view().keptPairs(i, j).size();
                case 3 -> view().cellGap(i, j) + 100;
                case 4 -> above / gcd;
                case 5 -> m[1] / gcd;
                default -> OUTSIDE;
            };
        }

        int line(int l, int k) {
            List<String> lines = view().table();
            if (l < 0 || l >= lines.size()) {
                return UNKNOWN;
            }
            return k < 0 ? OUTSIDE : k < lines.get(l).length() ? lines.get(l).charAt(k) : NONE;
        }

        int word(int n, int... letters) {
            if (n < 1 || n > 5) {
                return OUTSIDE;
            }
            if (!Arrays.stream(letters).limit(n).allMatch(w.shapes::containsKey)) {
                return UNKNOWN;
            }
            int wide = 1000 + Arrays.stream(letters).limit(n).map(c -> w.shapes.get(c).width).sum();
            for (int k = 1; k < n; k++) {
                wide += view().pairGap(8 * letters[k - 1] + letters[k]);
            }
            return wide;
        }

        int letter(int c, int left, int right, int width) {
            if (c < 0 || c > 7 || left < 0 || left > 99999 || right < 0 || right > 99999 || width < 1 || width > 9) {
                return OUTSIDE;
            }
            deed().shapes.put(c, new Shape(String.format("%05d", left), String.format("%05d", right), width));
            return w.shapes.size();
        }

        int forget(int c) {
            if (!w.shapes.containsKey(c)) {
                return UNKNOWN;
            }
            deed().shapes.remove(c);
            w.gaps.keySet().removeIf(p -> p / 8 == c || p % 8 == c);
            return w.shapes.size();
        }

        int judge(int c, int d, int gap) {
            if (!w.pairKnown(c, d)) {
                return UNKNOWN;
            }
            if (gap < -20 || gap > 20) {
                return OUTSIDE;
            }
            deed().gaps.put(8 * c + d, gap);
            return view().pairGap(8 * c + d) + 100;
        }

        int withdraw(int c, int d) {
            if (!w.pairKnown(c, d)) {
                return UNKNOWN;
            }
            return w.gaps.containsKey(8 * c + d) ? deed().gaps.remove(8 * c + d) + 100 : NOT;
        }

        int term(int which, int v) {
            if (which < 0 || which > 4 || v < (which == 2 ? 1 : 0) || v > new int[] {99, 20, 20, 99, 2}[which]) {
                return OUTSIDE;
            }
            int was = deed().terms[which];
            w.terms[which] = v;
            return was;
        }

        private int draw(int n) {
            seed = (seed * 1103515245L + 12345L) % (1L << 31);
            return (int) (seed / 65536 % n);
        }

        private String drawEdge() {
            StringBuilder b = new StringBuilder();
            for (int h = 0; h < 5; h++) {
                b.append(draw(5));
            }
            return b.toString();
        }

        int drift(int n) {
            if (n < 1 || n > 12) {
                return OUTSIDE;
            }
            for (int k = 0; k < n; k++) {
                deed();
                int c = draw(8);
                if (!w.shapes.containsKey(c)) {
                    String left = drawEdge();
                    String right = drawEdge();
                    w.shapes.put(c, new Shape(left, right, draw(9) + 1));
                } else {
                    int d = draw(8);
                    int gap = draw(9) - 4;
                    if (w.shapes.containsKey(d)) {
                        w.gaps.put(8 * c + d, gap);
                    }
                }
            }
            return w.set();
        }

        int undo(int n) {
            if (n < 1 || n > 16) {
                return OUTSIDE;
            }
            if (past.size() < n) {
                return NOT;
            }
            for (int k = 0; k < n; k++) {
                w = past.removeLast();
            }
            view = null;
            return w.set();
        }

        int write(int c, int d, int v) {
            if (!w.pairKnown(c, d)) {
                return UNKNOWN;
            }
            if (book.size() == 20) {
                return FULL;
            }
            book.add(new int[] {c, d, v});
            return book.size();
        }

        int tear() {
            int had = book.size();
            book.clear();
            return had;
        }

        int seed(int v) {
            if (v < 0) {
                return OUTSIDE;
            }
            int was = (int) seed;
            seed = v;
            return was;
        }

        int keep(int i) {
            if (i < 0 || i > 1) {
                return UNKNOWN;
            }
            images[i] = w.copy();
            imageSeeds[i] = seed;
            past.clear();
            return 1;
        }

        int goBack(int i) {
            if (i < 0 || i > 1) {
                return UNKNOWN;
            }
            if (images[i] == null) {
                return NOT;
            }
            w = images[i].copy();
            view = null;
            seed = imageSeeds[i];
            past.clear();
            return 1;
        }
    }

    /** One run: calls on both, until one answers otherwise. */
    private static final class Run {
        private final Random random;
        private final SightSpacing x = new SightSpacing();
        private final Model m = new Model();
        private final StringBuilder told = new StringBuilder();
        private final int kind;
        private final boolean textsAlone;
        private int calls = 0;
        private boolean good = true;

        Run(int number) {
            random = new Random(number);
            kind = number % 4;
            textsAlone = number % 3 > 0;
        }

        private int upTo(int n) {
            return random.nextInt(n);
        }

        private boolean oneIn(int n) {
            return random.nextInt(n) == 0;
        }

        private void check(String call, int got, int want) {
            calls++;
            told.append("  ").append(call).append(" = ").append(got).append('\n');
            if (got != want) {
                told.append("  due is ").append(want).append('\n');
                good = false;
            }
        }

        /** Mostly a KNOWN LETTER, else any, at times one out of bounds. */
        private int aLetter() {
            if (oneIn(40)) {
                return upTo(12) - 2 + (oneIn(3) ? 32 : 0);
            }
            List<Integer> known = new ArrayList<>(m.w.shapes.keySet());
            return known.isEmpty() || oneIn(12) ? upTo(8) : known.get(upTo(known.size()));
        }

        /** EDGES that are near to one another, so that CLASSES come to be of several LETTERS. */
        private int anEdge() {
            if (oneIn(40)) {
                return oneIn(2) ? 100000 : -1;
            }
            int figures = 0;
            int base = upTo(3);
            for (int h = 0; h < 5; h++) {
                figures = 10 * figures + (kind == 0 ? upTo(10) : base + upTo(kind + 1));
            }
            return figures;
        }

        private int aGap() {
            return oneIn(30) ? upTo(50) - 25 : oneIn(3) ? upTo(41) - 20 : upTo(9) - 2;
        }

        private String blanks() {
            return oneIn(5) ? " ".repeat(upTo(3)) : "";
        }

        private String aName() {
            return "" + (char) ('a' + Math.floorMod(aLetter(), 8));
        }

        private String aClause() {
            String b = blanks();
            return switch (upTo(7)) {
                case 0, 1 -> aName() + b + String.format("%05d", Math.abs(anEdge()) % 100000) + blanks() + "/" + b
                        + String.format("%05d", Math.abs(anEdge()) % 100000) + b + "," + blanks() + (1 + upTo(9));
                case 2, 3 -> aName() + aName() + b + ":" + blanks() + (oneIn(2) ? "-" : "") + b + upTo(21);
                case 4 -> new String[] {"like", "aim"}[upTo(2)] + b + upTo(100);
                case 5 -> new String[] {"odd", "cap"}[upTo(2)] + b + (1 + upTo(20));
                default -> "by " + b + new String[] {"sum", "most", "square"}[upTo(3)];
            } + blanks() + ";" + blanks();
        }

        private void aText() {
            StringBuilder b = new StringBuilder();
            for (int n = upTo(6); n > 0; n--) {
                b.append(aClause());
            }
            String signs = "  aabbccghiyz0123456789//,,::;;--likeoddcapaimbysum\t\0~\377A";
            for (int n = oneIn(2) ? 0 : 1 + upTo(2); n > 0 && b.length() > 0; n--) {
                int at = upTo(b.length());
                switch (upTo(4)) {
                    case 0 -> b.deleteCharAt(at);
                    case 1 -> b.setCharAt(at, signs.charAt(upTo(signs.length())));
                    case 2 -> b.insert(at, signs.charAt(upTo(signs.length())));
                    default -> b.setLength(at);
                }
            }
            for (int k = 0; k < b.length() && calls < CALLS - 4 && good; k++) {
                int letter = b.charAt(k);
                check("feed(" + letter + ")", x.feed(letter), m.feed(letter));
            }
            check("tell()", x.tell(), m.tell());
            check("fault()", x.fault(), m.faultPlace);
        }

        private void ask() {
            int c = aLetter();
            int d = aLetter();
            switch (upTo(9)) {
                case 0, 1 -> askTold(upTo(19) - 1);
                case 2 -> askEdge(c, upTo(5) / 2, upTo(21) / 4 - (oneIn(20) ? 1 : 0));
                case 3 -> askAt(c, upTo(13) / 4 - (oneIn(20) ? 1 : 0));
                case 4 -> askFar(c, d, upTo(9) / 4 - (oneIn(20) ? 1 : 0));
                case 5 -> askPair(c, d, upTo(21) / 4 - (oneIn(20) ? 1 : 0));
                case 6 -> askCell(upTo(6) - (oneIn(20) ? 1 : 0), upTo(6) - (oneIn(20) ? 1 : 0), upTo(19) / 3);
                case 7 -> askLine(upTo(m.told(5) + 2) - (oneIn(20) ? 1 : 0), upTo(10) - (oneIn(20) ? 1 : 0));
                default -> askWord(oneIn(20) ? upTo(9) - 1 : 1 + upTo(5), c, d, aLetter(), aLetter(), aLetter());
            }
        }

        private void askTold(int what) {
            check("told(" + what + ")", x.told(what), m.told(what));
        }

        private void askEdge(int c, int side, int h) {
            check("edge(" + c + ", " + side + ", " + h + ")", x.edge(c, side, h), m.edge(c, side, h));
        }

        private void askAt(int c, int what) {
            check("at(" + c + ", " + what + ")", x.at(c, what), m.at(c, what));
        }

        private void askFar(int c, int d, int side) {
            check("far(" + c + ", " + d + ", " + side + ")", x.far(c, d, side), m.far(c, d, side));
        }

        private void askPair(int c, int d, int what) {
            check("pair(" + c + ", " + d + ", " + what + ")", x.pair(c, d, what), m.pair(c, d, what));
        }

        private void askCell(int i, int j, int what) {
            check("cell(" + i + ", " + j + ", " + what + ")", x.cell(i, j, what), m.cell(i, j, what));
        }

        private void askLine(int l, int k) {
            check("line(" + l + ", " + k + ")", x.line(l, k), m.line(l, k));
        }

        private void askWord(int n, int a, int b, int c, int d, int e) {
            check("word(" + n + ", " + a + ", " + b + ", " + c + ", " + d + ", " + e + ")",
                    x.word(n, a, b, c, d, e), m.word(n, a, b, c, d, e));
        }

        private void act() {
            switch (upTo(24)) {
                case 0, 1, 2, 3 -> makeLetter(oneIn(30) ? upTo(12) - 2 : upTo(8), anEdge(), anEdge(), upTo(40));
                case 4 -> doForget(aLetter());
                case 5, 6, 7, 8, 9, 10, 11, 12 -> doJudge(aLetter(), aLetter(), aGap());
                case 13 -> doWithdraw(aLetter(), aLetter());
                case 14, 15 -> doTerm(upTo(5) - (oneIn(20) ? 1 : 0) + (oneIn(20) ? 1 : 0), aTerm());
                case 16 -> doDrift(oneIn(10) ? upTo(16) - 1 : 1 + upTo(3));
                case 17 -> doUndo(oneIn(8) ? upTo(20) - 1 : 1 + upTo(4));
                case 18, 19 -> doWrite(aLetter(), aLetter());
                case 20 -> doTear();
                case 21 -> doSeed(oneIn(10) ? -upTo(3) : random.nextInt() & 0x7fffffff);
                case 22 -> doKeep(oneIn(10) ? upTo(5) - 2 : upTo(2));
                default -> doGoBack(oneIn(10) ? upTo(5) - 2 : upTo(2));
            }
        }

        private int aTerm() {
            return switch (upTo(4)) {
                case 0 -> upTo(4);
                case 1 -> upTo(24) - 1;
                case 2 -> upTo(102) - 1;
                default -> upTo(10);
            };
        }

        private void makeLetter(int c, int left, int right, int w) {
            int width = w < 36 ? 1 + w % 9 : w - 36 == 0 ? 0 : w - 36 == 1 ? 10 : 5;
            check("letter(" + c + ", " + left + ", " + right + ", " + width + ")",
                    x.letter(c, left, right, width), m.letter(c, left, right, width));
        }

        private void doForget(int c) {
            check("forget(" + c + ")", x.forget(c), m.forget(c));
        }

        private void doJudge(int c, int d, int gap) {
            check("judge(" + c + ", " + d + ", " + gap + ")", x.judge(c, d, gap), m.judge(c, d, gap));
        }

        private void doWithdraw(int c, int d) {
            check("withdraw(" + c + ", " + d + ")", x.withdraw(c, d), m.withdraw(c, d));
        }

        private void doTerm(int which, int v) {
            check("term(" + which + ", " + v + ")", x.term(which, v), m.term(which, v));
        }

        private void doDrift(int n) {
            check("drift(" + n + ")", x.drift(n), m.drift(n));
        }

        private void doUndo(int n) {
            check("undo(" + n + ")", x.undo(n), m.undo(n));
        }

        /** Mostly the GAP as it is, so that WRONG is not the first entry all the time. */
        private void doWrite(int c, int d) {
            int v = oneIn(4) ? upTo(30) - 10 : m.pair(c, d, 0) - 100;
            check("write(" + c + ", " + d + ", " + v + ")", x.write(c, d, v), m.write(c, d, v));
        }

        /** Not each time, so that THE BOOK comes to be FULL, too. */
        private void doTear() {
            if (oneIn(6)) {
                check("tear()", x.tear(), m.tear());
            } else {
                askTold(14);
            }
        }

        private void doSeed(int v) {
            check("seed(" + v + ")", x.seed(v), m.seed(v));
        }

        private void doKeep(int i) {
            check("keep(" + i + ")", x.keep(i), m.keep(i));
        }

        private void doGoBack(int i) {
            check("goBack(" + i + ")", x.goBack(i), m.goBack(i));
        }

        boolean go() {
            for (int c = 0; c < 8 && good; c++) {
                if (!oneIn(4)) {
                    makeLetter(c, anEdge(), anEdge(), 3);
                }
            }
            while (calls < CALLS && good) {
                if (textsAlone || oneIn(60)) {
                    aText();
                } else if (oneIn(2)) {
                    act();
                } else {
                    ask();
                }
            }
            return good;
        }
    }

    public static void main(String[] args) {
        int wrong = 0;
        for (int number = 0; number < RUNS && wrong < 3; number++) {
            Run run = new Run(number);
            if (!run.go()) {
                wrong++;
                System.out.println("run " + number + ":\n" + run.told);
            }
        }
        System.out.println(RUNS + " runs of " + CALLS + " calls, " + wrong + " with an answer that is not the model's");
        if (wrong != 0) {
            System.exit(1);
        }
    }
}
