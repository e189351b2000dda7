import java.io.File;
import java.io.IOException;
import java.lang.reflect.Method;
import java.lang.reflect.Modifier;
import java.net.URL;
import java.net.URLClassLoader;
import java.nio.file.Files;
import java.nio.file.Path;
import java.util.ArrayList;
import java.util.Comparator;
import java.util.List;
import java.util.Set;
import java.util.TreeSet;
import java.util.regex.Matcher;
import java.util.regex.Pattern;
import java.util.stream.Stream;
import javax.tools.JavaCompiler;
import javax.tools.ToolProvider;

/** What README.md says is so: its calls answer what it tells, and its tests run as it tells. */
public final class ReadmeTest {
    private static final Path PAGE = Path.of("README.md");
    private static final Path TESTS = Path.of("src/test/java");
    private static final String WHOLE_RUN = ".ci/run";
    private static final int MOST_CALLS = 512, CALLS_IN_LOOPS = 60 + 8;
    private static final Pattern CALL =
        Pattern.compile("(((?:x|new HomeByFour\\(\\))\\.(\\w+)\\(.*\\)));\\s*// (-?\\d+|[A-Z]+)(?:: .*)?");
    private static final Check c = new Check();

    /** A line of a block of the page, and where it stands there. */
    private record Line(int number, String text) { }

    public static void main(String[] args) throws Exception {
        List<String> page = Files.readAllLines(PAGE);
        List<Line> calls = blocksOf(page, "java");
        eachCallTellsItsAnswer(calls);
        eachCallOfTheFaceIsShown(calls);
        callsAnswerAsTold(calls);
        constantsAreAsTold(String.join("\n", page));
        testsAreNamed(String.join("\n", page));
        commandsRun(blocksOf(page, "sh"));
        c.end();
    }

    private static List<Line> blocksOf(List<String> page, String language) {
        List<Line> lines = new ArrayList<>();
        boolean isInside = false;
        for (int k = 0; k < page.size(); k++) {
            String text = page.get(k);
            if (text.startsWith("```")) {
                isInside = text.equals("```" + language);
            } else if (isInside) {
                lines.add(new Line(k + 1, text));
            }
        }
        return lines;
    }

    private static void eachCallTellsItsAnswer(List<Line> calls) {
        c.part("each call on README.md tells its answer");
        for (Line line : calls) {
            // In a loop no one answer can be told behind the call.
            boolean isInLoop = line.text().startsWith(" ");
            boolean mustTell = line.text().contains("//")
                || !isInLoop && (line.text().startsWith("x.") || line.text().startsWith("new "));
            c.dueTrue("line " + line.number(), !mustTell || CALL.matcher(line.text()).matches());
        }
    }

    private static void eachCallOfTheFaceIsShown(List<Line> calls) {
        c.part("README.md shows each call");
        Set<String> shown = new TreeSet<>();
        for (Line line : calls) {
            Matcher call = CALL.matcher(line.text());
            if (call.matches()) {
                shown.add(call.group(3));
            }
        }
        for (Method method : HomeByFour.class.getDeclaredMethods()) {
            if (Modifier.isPublic(method.getModifiers())) {
                c.dueTrue(method.getName(), shown.contains(method.getName()));
            }
        }
    }

    /** Compiles the calls in the order of the page, as one run, and compares what they answer. */
    private static void callsAnswerAsTold(List<Line> calls) throws Exception {
        c.part("the calls on README.md, compiled as they stand");
        Path folder = Files.createTempDirectory("readme");
        try {
            Path source = folder.resolve("ReadmeRun.java");
            Files.writeString(source, runOf(calls));
            JavaCompiler compiler = ToolProvider.getSystemJavaCompiler();
            c.due("their compiler's exit code", compiler.run(null, null, null, "--release", "17",
                "-cp", System.getProperty("java.class.path"), "-d", folder.toString(), source.toString()), 0);
            compareAnswers(folder);
        } finally {
            deleteAll(folder);
        }
    }

    private static void compareAnswers(Path folder) throws Exception {
        List<String> told = new ArrayList<>();
        List<Long> answers = new ArrayList<>();
        List<Long> due = new ArrayList<>();
        try (URLClassLoader loader = new URLClassLoader(new URL[] {folder.toUri().toURL()})) {
            loader.loadClass("ReadmeRun").getMethod("run", List.class, List.class, List.class)
                .invoke(null, told, answers, due);
        }
        c.part("the calls on README.md answer as told");
        for (int k = 0; k < told.size(); k++) {
            c.due(told.get(k), answers.get(k), due.get(k));
        }
        // Loops put a text (of 60 cells at most) and make 8 readings.
        c.dueTrue("they are no more than an object is good for", told.size() + CALLS_IN_LOOPS <= MOST_CALLS);
    }

    private static String runOf(List<Line> calls) {
        StringBuilder run = new StringBuilder("import java.util.List;\npublic final class ReadmeRun {\n"
            + "public static void run(List<String> told, List<Long> answers, List<Long> due) {\n");
        for (Line line : calls) {
            Matcher call = CALL.matcher(line.text());
            if (call.matches()) {
                String answer = call.group(4);
                boolean isName = Character.isLetter(answer.charAt(0));
                run.append("told.add(\"line ").append(line.number()).append(": ").append(call.group(1)).append("\");\n")
                    .append("answers.add((long) ").append(call.group(1)).append(");\n")
                    .append("due.add((long) ").append(isName ? "HomeByFour." : "").append(answer).append(");\n");
            } else {
                run.append(line.text()).append("\n");
            }
        }
        return run.append("}\n}\n").toString();
    }

    private static void constantsAreAsTold(String page) throws ReflectiveOperationException {
        c.part("the constants on README.md");
        for (String name : new String[] {"UNKNOWN", "OUTSIDE", "STATE", "FULL", "NONE", "LOST"}) {
            long value = HomeByFour.class.getField(name).getLong(null);
            c.dueTrue(name + " is " + value,
                Pattern.compile("`" + name + "` \\(" + value + "[,)]").matcher(page).find());
        }
    }

    private static void testsAreNamed(String page) throws IOException {
        c.part("README.md names each test, and none that is not there");
        Set<String> named = new TreeSet<>();
        Matcher name = Pattern.compile("`(\\w+Test)`").matcher(page);
        while (name.find()) {
            named.add(name.group(1));
        }
        Set<String> there = new TreeSet<>();
        try (Stream<Path> files = Files.list(TESTS)) {
            files.map(file -> file.getFileName().toString()).filter(file -> file.endsWith("Test.java"))
                .forEach(file -> there.add(file.replace(".java", "")));
        }
        c.dueTrue("named are " + named + ", there are " + there, named.equals(there));
    }

    private static void commandsRun(List<Line> commands) throws IOException, InterruptedException {
        c.part("the commands on README.md");
        c.dueTrue("a whole run is told", commands.removeIf(line -> line.text().equals(WHOLE_RUN)));
        c.dueTrue("it can be run", new File(WHOLE_RUN).canExecute());
        // A whole run would run this test again, and that one again: only the others are run here.
        c.dueTrue("no other whole run", commands.stream().noneMatch(line -> line.text().contains(WHOLE_RUN)));
        c.dueTrue("one test alone is told", !commands.isEmpty());
        StringBuilder script = new StringBuilder();
        for (Line line : commands) {
            script.append(line.text()).append("\n");
        }
        runAlone(script.toString());
    }

    private static void runAlone(String script) throws IOException, InterruptedException {
        Path folder = Files.createTempDirectory("readme");
        try {
            ProcessBuilder shell = new ProcessBuilder("bash", "-e", "-c", script).redirectErrorStream(true);
            // Where mktemp makes its folder, so that nothing of it is left behind.
            shell.environment().put("TMPDIR", folder.toString());
            Process running = shell.start();
            running.getOutputStream().close();
            String said = new String(running.getInputStream().readAllBytes());
            c.due("one test alone, which said: " + said + "; its exit code", running.waitFor(), 0);
            c.dueTrue("it asks: " + said, said.matches("(?s).*[1-9]\\d* answers, 0 wrong\\s*"));
        } finally {
            deleteAll(folder);
        }
    }

    private static void deleteAll(Path folder) throws IOException {
        try (Stream<Path> files = Files.walk(folder)) {
            // What a folder holds goes ahead of the folder.
            for (Path file : files.sorted(Comparator.reverseOrder()).toList()) {
                Files.delete(file);
            }
        }
    }
}
