import java.io.IOException;
import java.lang.reflect.InvocationTargetException;
import java.lang.reflect.Method;
import java.lang.reflect.Modifier;
import java.net.URL;
import java.net.URLClassLoader;
import java.nio.file.Files;
import java.nio.file.Path;
import java.util.ArrayList;
import java.util.List;
import java.util.Set;
import java.util.TreeSet;
import java.util.regex.Matcher;
import java.util.regex.Pattern;
import java.util.stream.Stream;

/** What README.md says of the class is so: its blocks are taken as they stand there, compiled and run. */
public final class ReadmeTest {
    private static final Pattern BLOCK = Pattern.compile("(?s)```java\n(.*?)```");
    private static final Pattern ANSWERED =
        Pattern.compile("(x\\.(\\w+)\\(.*\\)); +// (-?\\d+|true|false|NONE|NoSuchElementException)(: .+)?");
    private static final Pattern TOLD = Pattern.compile("(LastDownOwns x = new LastDownOwns\\(\\)|tell\\(x, \".*\"\\));");
    private static final int MOST_CALLS = 512;
    private static int wrong = 0;
    private static int asked = 0;

    public static void main(String[] args) throws Exception {
        String page = Files.readString(Path.of("README.md"));
        runBlocks(page);
        classesAreNamed(page);
        testsAreNamed(page);
        nothingIsMadeByCalls();
        saysWhatItMust(page);
        System.out.println(asked + " answers of README.md, " + wrong + " not as due");
        if (wrong != 0 || asked == 0) {
            System.exit(1);
        }
    }

    private static void blame(boolean broken, String what) {
        if (broken) {
            wrong++;
            System.out.println("README.md: " + what);
        }
    }

    /** Called by the program that is made of the page. */
    public static void due(String call, String got, String want) {
        asked++;
        blame(!got.equals(want), call + " answered " + got + ", the page says " + want);
    }

    private static void runBlocks(String page) throws Exception {
        StringBuilder helpers = new StringBuilder();
        StringBuilder program = new StringBuilder();
        Set<String> shown = new TreeSet<>();
        Matcher block = BLOCK.matcher(page);
        while (block.find()) {
            if (block.group(1).startsWith("static ")) {
                helpers.append("private ").append(block.group(1));
                continue;
            }
            for (String line : block.group(1).split("\n")) {
                program.append(asStatement(line, shown)).append('\n');
            }
        }
        everyCallIsShown(shown);
        compileAndRun("public final class Shown {\n" + helpers + "public static void main(String[] args) {\n" + program
            + "}\n}\n");
        blame(asked + 10 * page.split("tell\\(x").length > MOST_CALLS, "more than 512 calls of one object are shown");
    }

    private static String asStatement(String line, Set<String> shown) {
        if (TOLD.matcher(line).matches()) {
            return line;
        }
        Matcher m = ANSWERED.matcher(line);
        if (!m.matches()) {
            blame(true, "a line of a block without an answer: " + line);
            return "";
        }
        shown.add(m.group(2));
        String call = m.group(1);
        String want = m.group(3).equals("NONE") ? "\"\" + LastDownOwns.NONE" : '"' + m.group(3) + '"';
        return "{ String got; try { got = String.valueOf(" + call + "); } "
            + "catch (RuntimeException e) { got = e.getClass().getSimpleName(); } "
            + "ReadmeTest.due(\"" + call.replace("\"", "\\\"") + "\", got, " + want + "); }";
    }

    private static void everyCallIsShown(Set<String> shown) {
        for (Method method : LastDownOwns.class.getDeclaredMethods()) {
            if (Modifier.isPublic(method.getModifiers())) {
                blame(!shown.contains(method.getName()), "not shown: " + method.getName());
            }
        }
    }

    private static void compileAndRun(String source) throws Exception {
        Path dir = Files.createTempDirectory("readme");
        Path file = dir.resolve("Shown.java");
        Files.writeString(file, source);
        Process javac = new ProcessBuilder("javac", "-nowarn", "-cp", System.getProperty("java.class.path"), "-d",
            dir.toString(), file.toString()).inheritIO().start();
        if (javac.waitFor() == 0) {
            run(dir);
        } else {
            blame(true, "its blocks do not compile");
        }
        Files.deleteIfExists(dir.resolve("Shown.class"));
        Files.deleteIfExists(file);
        Files.deleteIfExists(dir);
    }

    private static void run(Path dir) throws IOException, ReflectiveOperationException {
        try (URLClassLoader loader = new URLClassLoader(new URL[] {dir.toUri().toURL()})) {
            loader.loadClass("Shown").getMethod("main", String[].class).invoke(null, (Object) new String[0]);
        } catch (InvocationTargetException e) {
            blame(true, "its blocks end with " + e.getCause());
        }
    }

    private static void classesAreNamed(String page) {
        Set<String> inside = new TreeSet<>();
        for (Class<?> c : LastDownOwns.class.getDeclaredClasses()) {
            inside.add(c.getSimpleName());
        }
        Set<String> named = new TreeSet<>();
        Matcher m = Pattern.compile("(?m)^\\| `([A-Z]\\w+)` \\|").matcher(page.substring(0, page.indexOf("## Tests")));
        while (m.find()) {
            named.add(m.group(1));
        }
        blame(!named.equals(inside), "it names the classes " + named + ", there are " + inside);
    }

    private static void testsAreNamed(String page) throws IOException {
        Set<String> there = new TreeSet<>();
        try (Stream<Path> files = Files.list(Path.of("src/test/java"))) {
            files.map(f -> f.getFileName().toString().replace(".java", "")).filter(n -> n.endsWith("Test"))
                .forEach(there::add);
        }
        Set<String> named = new TreeSet<>();
        Matcher m = Pattern.compile("`(\\w+Test)`").matcher(page);
        while (m.find()) {
            named.add(m.group(1));
        }
        blame(!named.equals(there), "it names the tests " + named + ", there are " + there);
        blame(!Files.isExecutable(Path.of(".ci/run")), ".ci/run can't be run");
    }

    /** "All arrays and objects are made with the object": each new stands at a field, but for those of exceptions. */
    private static void nothingIsMadeByCalls() throws IOException {
        List<String> others = new ArrayList<>();
        for (String line : Files.readAllLines(Path.of("src/main/java/LastDownOwns.java"))) {
            boolean ofField = line.matches(" +(private )?final [\\w\\[\\]]+ \\w+ = new .*;");
            boolean ofException = line.matches(" +throw new NoSuchElementException\\(.*\\);");
            if (line.contains(" new ") && !ofField && !ofException) {
                others.add(line.trim());
            }
        }
        blame(!others.isEmpty(), "a call makes something: " + others);
    }

    /** What the page must tell can't be lost from it. */
    private static void saysWhatItMust(String page) {
        String[] all = {"new LastDownOwns()", "at most 512 calls", "`sign`", "`end(n)`", "A refused call answers `NONE`",
            "or false", "`count(11)`", "`row(i)`", "NoSuchElementException", ".ci/run", "JDK 17", "../shared"};
        for (String words : all) {
            blame(!page.contains(words), "it does not say: " + words);
        }
    }
}
