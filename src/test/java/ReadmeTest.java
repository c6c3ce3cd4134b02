import java.io.File;
import java.lang.reflect.Method;
import java.lang.reflect.Modifier;
import java.net.URL;
import java.net.URLClassLoader;
import java.nio.file.Files;
import java.nio.file.Path;
import java.util.ArrayList;
import java.util.List;
import java.util.Set;
import java.util.TreeSet;
import java.util.concurrent.TimeUnit;
import java.util.regex.Matcher;
import java.util.regex.Pattern;
import java.util.stream.Stream;
import javax.tools.ToolProvider;

/** README.md: the calls that it shows answer what it says, and the tests are run the way that it tells. */
public final class ReadmeTest {
    /** A call with the number that README.md says it answers at the begin of the words behind it. */
    private static final Pattern SHOWN = Pattern.compile("\\s*(x\\.(\\w+)\\(.*\\));\\s*// (-?[0-9]+)\\b.*");
    /** A call inside another statement or with a remark that tells no answer. */
    private static final Pattern CALLED = Pattern.compile("x\\.(\\w+)\\(");

    private static int wrong = 0;

    private static void must(boolean so, String told) {
        if (!so) {
            wrong++;
            System.out.println("not so: " + told);
        }
    }

    private static List<String> blocks(String page, String language) {
        List<String> found = new ArrayList<>();
        Matcher m = Pattern.compile("(?s)```" + language + "\n(.*?)\n```").matcher(page);
        while (m.find()) {
            found.add(m.group(1));
        }
        return found;
    }

    /** The lines of README.md as a class whose method shown() counts the answers that are not as told. */
    private static String asClass(String block) {
        StringBuilder b = new StringBuilder("public final class Shown {\n  private static int wrong = 0;\n"
            + "  private static void due(String call, int got, int want) {\n"
            + "    if (got != want) { wrong++; System.out.println(\"README.md: \" + call + \" answered \" + got"
            + " + \", shown is \" + want); }\n  }\n  public static int shown() {\n");
        for (String line : block.split("\n")) {
            Matcher m = SHOWN.matcher(line);
            b.append(m.matches() ? "due(\"" + m.group(1) + "\", " + m.group(1) + ", " + m.group(3) + ");" : line).append('\n');
        }
        return b.append("    return wrong;\n  }\n}\n").toString();
    }

    private static void callsAnswerAsShown(String page, Path work) throws Exception {
        List<String> blocks = blocks(page, "java");
        must(blocks.size() == 1, "README.md shows one piece of Java: " + blocks.size());
        for (String block : blocks) {
            Path source = work.resolve("Shown.java");
            Files.writeString(source, asClass(block));
            int failed = ToolProvider.getSystemJavaCompiler().run(null, null, null,
                "-cp", System.getProperty("java.class.path"), "-d", work.toString(), source.toString());
            must(failed == 0, "what README.md shows is Java");
            if (failed == 0) {
                try (URLClassLoader loader = new URLClassLoader(new URL[] {work.toUri().toURL()})) {
                    int answers = (Integer) loader.loadClass("Shown").getMethod("shown").invoke(null);
                    must(answers == 0, "the calls of README.md answer what it shows: " + answers + " do not");
                }
            }
            everyCallIsShown(block);
        }
    }

    private static void everyCallIsShown(String block) {
        Set<String> shown = new TreeSet<>();
        for (String line : block.split("\n")) {
            Matcher m = SHOWN.matcher(line);
            if (m.matches()) {
                shown.add(m.group(2));
            } else if (CALLED.matcher(line).find()) {
                // The loop that writes the text is the one place where an answer is left aside.
                must(line.contains("x.write(1, sign)"), "README.md tells what this answers: " + line);
            }
        }
        for (Method m : PaperRings.class.getDeclaredMethods()) {
            if (Modifier.isPublic(m.getModifiers())) {
                must(shown.contains(m.getName()), "README.md shows what " + m.getName() + " answers");
            }
        }
    }

    private static void testsAreNamed(String page, Path root) throws Exception {
        Set<String> there = new TreeSet<>();
        try (Stream<Path> files = Files.list(root.resolve("src/test/java"))) {
            files.map(f -> f.getFileName().toString()).filter(n -> n.endsWith("Test.java"))
                .forEach(n -> there.add(n.substring(0, n.length() - 5)));
        }
        Set<String> named = new TreeSet<>();
        Matcher m = Pattern.compile("`(\\w+Test)`").matcher(page);
        while (m.find()) {
            named.add(m.group(1));
        }
        must(there.equals(named), "README.md names the tests that there are: " + there + ", not " + named);
    }

    /** The first block is .ci/run, in which this test runs itself; the others are run here as they stand. */
    private static void commandsRun(String page, Path root, Path work) throws Exception {
        List<String> blocks = blocks(page, "sh");
        must(blocks.size() == 2 && blocks.get(0).equals(".ci/run"), "README.md says .ci/run, then one test by itself");
        must(Files.isExecutable(root.resolve(".ci/run")), ".ci/run can be run");
        for (String block : blocks.subList(Math.min(1, blocks.size()), blocks.size())) {
            File log = work.resolve("log").toFile();
            Process p = new ProcessBuilder("sh", "-e", "-c", block).directory(root.toFile())
                .redirectErrorStream(true).redirectOutput(log).start();
            boolean ended = p.waitFor(300, TimeUnit.SECONDS);
            must(ended && p.exitValue() == 0, "these commands run:\n" + block + "\nbut:\n" + Files.readString(log.toPath()));
            p.destroy();
        }
    }

    /** What README.md says of .ci/run stands in it: the places of the tests, and how one is compiled and run. */
    private static void ciGoesThatWay(String page, Path root) throws Exception {
        String ci = Files.readString(root.resolve(".ci/run"));
        for (String place : List.of("../shared/tests", "src/test/java/*Test.java")) {
            must(page.contains(place), "README.md tells of " + place);
        }
        must(ci.contains("/../shared/tests/*.java"), ".ci/run goes through ../shared/tests");
        must(ci.contains("/src/test/java/*Test.java"), ".ci/run goes through src/test/java");
        must(ci.contains("-Xlint:all -Werror") && page.contains("-Xlint:all -Werror"), "the same flags of javac");
        must(ci.contains("-sourcepath") && page.contains("-sourcepath src/test/java"), "the same place of what tests share");
    }

    private static void remove(Path folder) throws Exception {
        List<Path> all;
        try (Stream<Path> files = Files.walk(folder)) {
            all = new ArrayList<>(files.toList());
        }
        for (int i = all.size() - 1; i >= 0; i--) {
            Files.delete(all.get(i));
        }
    }

    public static void main(String[] args) throws Exception {
        Path source = Path.of(args.length > 0 ? args[0] : "src/main/java/PaperRings.java").toAbsolutePath();
        Path root = source.getParent().getParent().getParent().getParent();
        String page = Files.readString(root.resolve("README.md"));
        Path work = Files.createTempDirectory("readme");
        try {
            callsAnswerAsShown(page, work);
            testsAreNamed(page, root);
            commandsRun(page, root, work);
            ciGoesThatWay(page, root);
        } finally {
            remove(work);
        }
        System.out.println(wrong == 0 ? "README.md is as the class is" : wrong + " sayings of README.md are not so");
        if (wrong != 0) {
            System.exit(1);
        }
    }
}
