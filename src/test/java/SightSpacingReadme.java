import java.io.IOException;
import java.lang.reflect.Method;
import java.lang.reflect.Modifier;
import java.nio.file.Files;
import java.nio.file.Path;
import java.util.ArrayList;
import java.util.Arrays;
import java.util.List;
import java.util.Set;
import java.util.TreeSet;
import java.util.regex.Matcher;
import java.util.regex.Pattern;
import java.util.stream.Stream;

/** README.md: its calls answer what it says, every method of the face is shown, every test is named. */
public final class SightSpacingReadme {
    private static final Pattern MADE = Pattern.compile("SightSpacing x = new SightSpacing\\(\\);");
    private static final Pattern FED = Pattern.compile("for \\(char k : \"([^\"]*)\"\\.toCharArray\\(\\)\\) x\\.feed\\(k\\);");
    private static final Pattern ASKED =
            Pattern.compile("x\\.(\\w+)\\(([-\\d, ]*)\\)(?: - (\\d+))?; +// (NONE|UNKNOWN|OUTSIDE|NOT|FULL|'.'|-?\\d+)(?:\\W.*)?");

    private static int wrong = 0;
    private static int asked = 0;
    private static int calls = 0;
    private static SightSpacing x = new SightSpacing();
    private static final Set<String> SHOWN = new TreeSet<>();

    private static void fail(String what) {
        wrong++;
        System.out.println(what);
    }

    private static int call(String name, String args) throws ReflectiveOperationException {
        List<Object> numbers = new ArrayList<>();
        for (String arg : args.split(",")) {
            if (!arg.isBlank()) {
                numbers.add(Integer.parseInt(arg.trim()));
            }
        }
        Class<?>[] types = new Class<?>[numbers.size()];
        Arrays.fill(types, int.class);
        SHOWN.add(name);
        calls++;
        return (int) SightSpacing.class.getMethod(name, types).invoke(x, numbers.toArray());
    }

    private static int answer(String said) {
        switch (said) {
            case "NONE": return SightSpacing.NONE;
            case "UNKNOWN": return SightSpacing.UNKNOWN;
            case "OUTSIDE": return SightSpacing.OUTSIDE;
            case "NOT": return SightSpacing.NOT;
            case "FULL": return SightSpacing.FULL;
            default: return said.charAt(0) == '\'' ? said.charAt(1) : Integer.parseInt(said);
        }
    }

    private static void run(String line) throws ReflectiveOperationException {
        Matcher fed = FED.matcher(line);
        Matcher ask = ASKED.matcher(line);
        if (MADE.matcher(line).matches()) {
            x = new SightSpacing();
        } else if (fed.matches()) {
            for (char k : fed.group(1).toCharArray()) {
                x.feed(k);
                calls++;
            }
            SHOWN.add("feed");
        } else if (ask.matches()) {
            asked++;
            int got = call(ask.group(1), ask.group(2)) - (ask.group(3) == null ? 0 : Integer.parseInt(ask.group(3)));
            if (got != answer(ask.group(4))) {
                fail("README.md says " + line + " but it answers " + got);
            }
        } else {
            fail("README.md has a line that cannot be run: " + line);
        }
    }

    private static void runBlocks(String readme) throws ReflectiveOperationException {
        Matcher block = Pattern.compile("(?s)```java\n(.*?)```").matcher(readme);
        while (block.find()) {
            for (String line : block.group(1).split("\n")) {
                run(line);
            }
        }
        if (asked == 0 || calls > 512) {
            fail("README.md has " + asked + " answers, " + calls + " calls");
        }
    }

    /** "its LINES are `..`, `..`:" tells THE TABLE as it is at the call that follows. */
    private static void table(String readme) throws ReflectiveOperationException {
        Matcher told = Pattern.compile("(?s)(.*)its LINES are (.*?):\n").matcher(readme);
        if (!told.lookingAt()) {
            fail("README.md does not tell THE TABLE");
            return;
        }
        runBlocks(told.group(1));
        List<String> lines = new ArrayList<>();
        for (int l = 0; l < x.told(5); l++) {
            StringBuilder line = new StringBuilder();
            for (int k = 0; x.line(l, k) != SightSpacing.NONE; k++) {
                line.append((char) x.line(l, k));
            }
            lines.add("`" + line + "`");
        }
        String got = String.join(", ", lines);
        if (!got.equals(told.group(2))) {
            fail("README.md tells THE TABLE " + told.group(2) + " but it is " + got);
        }
    }

    private static void allShown() {
        for (Method m : SightSpacing.class.getDeclaredMethods()) {
            if (Modifier.isPublic(m.getModifiers()) && !SHOWN.contains(m.getName())) {
                fail("README.md does not show " + m.getName());
            }
        }
    }

    private static void testsNamed(String readme) throws IOException {
        try (Stream<Path> tests = Files.list(Path.of("src/test/java"))) {
            tests.map(t -> t.getFileName().toString().replace(".java", "")).sorted().forEach(name -> {
                if (!readme.contains("- `" + name + "`: ")) {
                    fail("README.md does not name the test " + name);
                }
            });
        }
        if (!readme.contains("    sh .ci/run\n") || !Files.isExecutable(Path.of(".ci/run"))) {
            fail("README.md says how the tests are run, by a script that can be run");
        }
    }

    public static void main(String[] args) throws IOException, ReflectiveOperationException {
        String readme = Files.readString(Path.of("README.md"));
        table(readme);
        SHOWN.clear();
        asked = 0;
        calls = 0;
        runBlocks(readme);
        allShown();
        testsNamed(readme);
        System.out.println(asked + " answers of README.md, " + wrong + " not so");
        if (wrong != 0) {
            System.exit(1);
        }
    }
}
