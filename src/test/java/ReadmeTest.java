import java.lang.reflect.Method;
import java.lang.reflect.Modifier;
import java.nio.file.Files;
import java.nio.file.Path;
import java.util.ArrayList;
import java.util.List;
import java.util.Set;
import java.util.TreeSet;
import java.util.concurrent.TimeUnit;
import java.util.regex.Matcher;
import java.util.regex.Pattern;
import java.util.stream.Stream;

/** README.md: the answers that it gives, the commands that it tells, the tests and files that it names. */
public final class ReadmeTest {
    /** A call with the answer behind it: "hill.view(0);   // 26: miles that somebody sees". */
    private static final Pattern ANSWERED =
        Pattern.compile("\\s*((?:int|long) \\w+ = )?(hill\\.(\\w+)\\(.*\\));\\s*// (-?\\w+): \\S.*");
    private final String page;
    private final Path made;

    private ReadmeTest(String page, Path made) {
        this.page = page;
        this.made = made;
    }

    public static void main(String[] args) throws Exception {
        Path made = Files.createTempDirectory("readme");
        ReadmeTest test = new ReadmeTest(Files.readString(Path.of("README.md")), made);
        try {
            test.answers();
            test.commands();
            test.tests();
            test.classes();
        } finally {
            test.tidy();
        }
        Check.end();
    }

    private List<String> blocks(String language) {
        List<String> all = new ArrayList<>();
        Matcher m = Pattern.compile("(?s)```" + language + "\n(.*?)```").matcher(page);
        while (m.find()) {
            all.add(m.group(1));
        }
        Check.holds("README.md shows " + language, !all.isEmpty());
        return all;
    }

    /** The page's lines as one program, in which each answered call is held against its answer. */
    private void answers() throws Exception {
        StringBuilder program = new StringBuilder("public final class Shown extends Due {\n"
            + "public static void main(String[] args) {\n");
        Set<String> shown = new TreeSet<>();
        for (String line : String.join("", blocks("java")).split("\n")) {
            Matcher m = ANSWERED.matcher(line);
            boolean answered = m.matches();
            Check.holds("an answer behind <" + line.trim() + ">", answered || !line.startsWith("hill."));
            if (answered) {
                shown.add(m.group(3));
                program.append(m.group(1) == null ? "" : m.group(1) + "(int) ").append("due(\"")
                    .append(m.group(2).replace("\"", "\\\"")).append("\", ").append(m.group(2)).append(", ")
                    .append(m.group(4)).append(");\n");
            } else {
                program.append(line).append('\n');
            }
        }
        program.append("end();\n}\n}\n");
        Files.writeString(made.resolve("Due.java"), "class Due {\n"
            + "static final int NONE = NoViewWithoutQuarrel.NONE, BAD = NoViewWithoutQuarrel.BAD;\n"
            + "static final long NO = NoViewWithoutQuarrel.NO;\nstatic boolean wrong;\n"
            + "static long due(String call, long got, long want) {\nif (got != want) {\nwrong = true;\n"
            + "System.out.println(\"README.md: \" + call + \" answered \" + got + \", it says \" + want);\n}\n"
            + "return got;\n}\nstatic void end() {\nSystem.exit(wrong ? 1 : 0);\n}\n}\n");
        Files.writeString(made.resolve("Shown.java"), program);
        ran("javac -d " + made + " -sourcepath " + made + " src/main/java/NoViewWithoutQuarrel.java " + made
            + "/Shown.java && java -cp " + made + " Shown");
        for (Method m : NoViewWithoutQuarrel.class.getDeclaredMethods()) {
            Check.holds("README.md shows " + m.getName() + "()",
                !Modifier.isPublic(m.getModifiers()) || shown.contains(m.getName()));
        }
    }

    /** The commands as they stand there, but for the place where they put what they make. */
    private void commands() throws Exception {
        for (String block : blocks("sh")) {
            ran(block.replace("/tmp/out", made.resolve("out").toString()));
        }
        Check.holds(".ci/run can be run", Files.isExecutable(Path.of(".ci/run")) && page.contains("`.ci/run`"));
    }

    private void ran(String command) throws Exception {
        Process process = new ProcessBuilder("sh", "-e", "-c", command).redirectErrorStream(true)
            .redirectOutput(ProcessBuilder.Redirect.INHERIT).start();
        process.getOutputStream().close();
        boolean ended = process.waitFor(5, TimeUnit.MINUTES);
        Check.holds("it runs: " + command, ended && process.exitValue() == 0);
        process.destroy();
    }

    private void tests() throws Exception {
        Set<String> named = new TreeSet<>();
        Matcher m = Pattern.compile("(?m)^\\| `(\\w+Test)` \\| \\S").matcher(page);
        while (m.find()) {
            named.add(m.group(1) + ".java");
        }
        Set<String> there = new TreeSet<>();
        try (Stream<Path> files = Files.list(Path.of("src/test/java"))) {
            files.map(f -> f.getFileName().toString()).filter(f -> f.endsWith("Test.java")).forEach(there::add);
        }
        Check.holds("README.md names the tests " + named + ", there are " + there, named.equals(there));
    }

    private void classes() {
        Set<String> named = new TreeSet<>();
        String built = page.substring(page.indexOf("## How it is built"), page.indexOf("## Tests"));
        Matcher m = Pattern.compile("`([A-Z]\\w+)`:").matcher(built);
        while (m.find()) {
            named.add(m.group(1));
        }
        Set<String> there = new TreeSet<>();
        for (Class<?> c : NoViewWithoutQuarrel.class.getDeclaredClasses()) {
            there.add(c.getSimpleName());
        }
        Check.holds("README.md names the classes inside " + named + ", there are " + there, named.equals(there));
    }

    private void tidy() throws Exception {
        try (Stream<Path> files = Files.walk(made)) {
            for (Path file : files.sorted(java.util.Comparator.reverseOrder()).toList()) {
                Files.delete(file);
            }
        }
    }
}
