import java.io.IOException;
import java.lang.reflect.Constructor;
import java.lang.reflect.Field;
import java.lang.reflect.Method;
import java.lang.reflect.Modifier;
import java.nio.file.Files;
import java.nio.file.Path;
import java.util.ArrayList;
import java.util.Arrays;
import java.util.List;
import java.util.Set;
import java.util.TreeSet;
import java.util.regex.Matcher;
import java.util.regex.Pattern;

/** Rules of ../shared/LANGUAGE.md that can be seen from outside: the face, and words that must not stand in the file. */
public final class SightSpacingLanguage {
    private static final Path SOURCE = Path.of("src/main/java/SightSpacing.java");
    private static final Path DOCUMENT = Path.of("../shared/DOC.md");
    private static final Set<String> FACE = new TreeSet<>(List.of(
            "feed(1)", "tell(0)", "fault(0)", "told(1)", "edge(3)", "at(2)", "far(3)", "pair(3)", "cell(3)", "line(2)",
            "word(6)", "letter(4)", "forget(1)", "judge(3)", "withdraw(2)", "term(2)", "drift(1)", "undo(1)",
            "write(3)", "tear(0)", "seed(1)", "keep(1)", "goBack(1)"));
    private static final Set<String> CONSTANTS = new TreeSet<>(List.of("NONE", "UNKNOWN", "OUTSIDE", "NOT", "FULL"));
    private static int wrong = 0;

    private static void hold(int rule, String what, boolean holds) {
        if (!holds) {
            wrong++;
            System.out.println("rule " + rule + ": " + what);
        }
    }

    private static void face() {
        Class<?> x = SightSpacing.class;
        hold(1, "the class is public and final", Modifier.isPublic(x.getModifiers()) && Modifier.isFinal(x.getModifiers()));
        Set<String> methods = new TreeSet<>();
        for (Method m : x.getDeclaredMethods()) {
            if (!Modifier.isPrivate(m.getModifiers())) {
                methods.add(m.getName() + "(" + m.getParameterCount() + ")");
                boolean ints = Arrays.stream(m.getParameterTypes()).allMatch(t -> t == int.class);
                hold(1, m + " takes and answers int", ints && m.getReturnType() == int.class);
                hold(1, m + " is public, not static", m.getModifiers() == Modifier.PUBLIC);
            }
        }
        hold(1, "the methods are the document's: " + methods, methods.equals(FACE));
        Set<String> constants = new TreeSet<>();
        for (Field f : x.getDeclaredFields()) {
            if (!Modifier.isPrivate(f.getModifiers())) {
                constants.add(f.getName());
                hold(1, f + " is a constant", f.getModifiers() == (Modifier.PUBLIC | Modifier.STATIC | Modifier.FINAL));
            }
        }
        hold(1, "the constants are the document's: " + constants, constants.equals(CONSTANTS));
        Constructor<?>[] made = x.getDeclaredConstructors();
        hold(1, "the constructor takes nothing", made.length == 1 && made[0].getParameterCount() == 0);
        hold(1, "one public constructor", made.length == 1 && Modifier.isPublic(made[0].getModifiers()));
    }

    /** The face as ../shared/DOC.md writes it is the one that is told here. */
    private static void faceOfDocument() throws IOException, ReflectiveOperationException {
        if (!Files.exists(DOCUMENT)) {
            System.out.println("no " + DOCUMENT + ": the face is not compared with it");
            return;
        }
        Matcher block = Pattern.compile("(?s)```java\n(.*?)```").matcher(Files.readString(DOCUMENT));
        String face = block.find() ? block.group(1) : "";
        Set<String> methods = new TreeSet<>();
        Matcher method = Pattern.compile("public int (\\w+)\\(((?:int \\w+(?:, )?)*)\\);").matcher(face);
        while (method.find()) {
            methods.add(method.group(1) + "(" + (method.group(2).isEmpty() ? 0 : method.group(2).split(",").length) + ")");
        }
        hold(1, "the document's methods are " + methods, methods.equals(FACE));
        Matcher constant = Pattern.compile("\\b([A-Z]+) = (-\\d+)[,;]").matcher(face);
        Set<String> constants = new TreeSet<>();
        while (constant.find()) {
            constants.add(constant.group(1));
            int value = SightSpacing.class.getField(constant.group(1)).getInt(null);
            hold(1, constant.group() + " is so", value == Integer.parseInt(constant.group(2)));
        }
        hold(1, "the document's constants are " + constants, constants.equals(CONSTANTS));
        hold(1, "the document's face is short", face.lines().count() == FACE.size() + 4);
    }

    private static List<Class<?>> classes() {
        List<Class<?>> all = new ArrayList<>(List.of(SightSpacing.class.getDeclaredClasses()));
        for (Class<?> c : all) {
            hold(1, c + " is static", Modifier.isStatic(c.getModifiers()));
            hold(1, c + " is not public", !Modifier.isPublic(c.getModifiers()) && !Modifier.isProtected(c.getModifiers()));
        }
        all.add(SightSpacing.class);
        hold(11, "some twelve classes", all.size() <= 12);
        return all;
    }

    private static void members() {
        for (Class<?> c : classes()) {
            int fields = 0;
            for (Field f : c.getDeclaredFields()) {
                boolean fixed = Modifier.isStatic(f.getModifiers());
                fields += fixed ? 0 : 1;
                hold(5, f + " is final", !fixed || Modifier.isFinal(f.getModifiers()));
            }
            hold(11, c + " has some twenty fields", fields <= 20);
            for (Method m : c.getDeclaredMethods()) {
                hold(11, m + " takes at most seven", m.getParameterCount() <= 7);
                boolean faceName = FACE.stream().anyMatch(n -> n.startsWith(m.getName() + "("));
                hold(1, m + " bears no public one's name",
                        !faceName || c == SightSpacing.class && Modifier.isPublic(m.getModifiers()));
            }
        }
    }

    /** The file without its comments; what is between quotes becomes empty. */
    private static String code() throws IOException {
        String text = Files.readString(SOURCE);
        hold(4, "signs are 1 to 127", text.chars().allMatch(k -> k >= 1 && k <= 127));
        return text.replaceAll("(?s)/\\*.*?\\*/", "").replaceAll("//[^\\n]*", "")
                .replaceAll("\"[^\"\\n]*\"", "\"\"").replaceAll("'[^'\\n]+'", "' '");
    }

    private static void words(String code) {
        for (String bad : List.of("throw", "throws", "try", "catch", "synchronized", "assert", "import", "package", "var",
                "hashCode", "toString", "volatile", "native", "transient", "double", "float", "protected")) {
            hold(6, "no '" + bad + "'", !Pattern.compile("\\b" + bad + "\\b").matcher(code).find());
        }
        hold(2, "no lambda, no method reference", !code.contains("->") && !code.contains("::"));
        hold(4, "none whose name ends in Exact", !code.contains("Exact"));
        hold(10, "no text joined by +", !code.contains("\" +") && !code.contains("+ \""));
        Matcher library = Pattern.compile("\\b(Math|Integer|Long|System|Arrays)\\.(\\w+)").matcher(code);
        Set<String> allowed = Set.of("max", "min", "abs", "bitCount", "floorDiv", "floorMod", "compare", "arraycopy");
        while (library.find()) {
            hold(4, library.group() + " stands in the list", allowed.contains(library.group(2)));
        }
    }

    /** From a line with a method's head to the line that closes it. */
    private static void methodLengths(String code) {
        String[] lines = code.split("\n");
        for (int k = 0; k < lines.length; k++) {
            if (lines[k].matches(" +[\\w\\[\\] ]+\\([\\w\\[\\], ]*\\) \\{") && !lines[k].matches(" +(else|return|new)\\b.*")) {
                String end = lines[k].replaceAll("\\S.*", "") + "}";
                int to = k;
                while (to < lines.length && !lines[to].equals(end)) {
                    to++;
                }
                hold(11, "some sixty lines at most: " + lines[k].trim(), to - k <= 60);
            }
        }
    }

    public static void main(String[] args) throws IOException, ReflectiveOperationException {
        face();
        faceOfDocument();
        members();
        String code = code();
        words(code);
        methodLengths(code);
        System.out.println(wrong == 0 ? "the rules hold" : wrong + " rules do not hold");
        if (wrong != 0) {
            System.exit(1);
        }
    }
}
