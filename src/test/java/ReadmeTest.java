import java.io.IOException;
import java.nio.file.Files;
import java.nio.file.Path;
import java.util.ArrayList;
import java.util.Comparator;
import java.util.List;
import java.util.regex.Matcher;
import java.util.regex.Pattern;
import java.util.stream.Collectors;
import java.util.stream.Stream;

/** What README.md shows: its programs answer as it says, its commands work, its tables leave nothing out. */
final class ReadmeTest {
    private static final Path README = Path.of("README.md");
    private static final Path CLASS = Path.of("src/main/java/GlassHarp.java");
    private static final Path TESTS = Path.of("src/test/java");
    private static final String ALL_TESTS = ".ci/run";
    private static final Pattern NAME = Pattern.compile("public final class (\\w+)");
    private static final String PRINTS = "System.out.print";
    private static final Pattern PRINTS_ANSWER = Pattern.compile(" *System\\.out\\.println\\(.*\\); *// ([^:]+)(: .*)?");
    private static final String WHAT = "- `what`: ";
    private static final Pattern ROW = Pattern.compile("\\| `([^`]+)` \\|.*");
    private static final Pattern CALL = Pattern.compile("public \\w+ (\\w+)(\\(.*?\\)).*;");

    private static final Checks checks = new Checks();
    private static final List<List<String>> programs = Markdown.blocks(README, "java");
    private static final List<List<String>> commands = Markdown.blocks(README, "sh");

    public static void main(String[] args) throws IOException, InterruptedException {
        tablesLeaveNothingOut();
        Path room = Files.createTempDirectory("readme");
        try {
            Path project = copyProject(room);
            programsAnswer(project);
            commandsWork(project);
        } finally {
            delete(room);
        }
        checks.end();
    }

    /** A copy, so that nothing is written into the project, with ../shared beside it. */
    private static Path copyProject(Path room) throws IOException {
        Path project = room.resolve("main");
        copy(CLASS, project.resolve(CLASS));
        for (Path test : tests()) {
            copy(test, project.resolve(test));
        }
        copy(Markdown.DOCUMENT, project.resolve(Markdown.DOCUMENT).normalize());
        return project;
    }

    private static void copy(Path from, Path to) throws IOException {
        Files.createDirectories(to.getParent());
        Files.copy(from, to);
    }

    private static List<Path> tests() throws IOException {
        try (Stream<Path> files = Files.list(TESTS)) {
            return files.sorted().collect(Collectors.toList());
        }
    }

    private static void delete(Path room) throws IOException {
        try (Stream<Path> files = Files.walk(room)) {
            for (Path file : files.sorted(Comparator.reverseOrder()).collect(Collectors.toList())) {
                Files.delete(file);
            }
        }
    }

    /** Each program is compiled and run by the first commands of the page, which are told for the first one. */
    private static void programsAnswer(Path project) throws IOException, InterruptedException {
        checks.isTrue("there are programs, and commands for them", programs.size() > 1 && commands.size() > 1);
        String compileAndRun = String.join("\n", commands.get(0));
        String first = nameOf(programs.get(0));
        checks.isTrue("the commands are for " + first, compileAndRun.contains(first));
        for (List<String> program : programs) {
            String name = nameOf(program);
            checks.about("README.md, " + name);
            Files.write(project.resolve(name + ".java"), program);
            List<String> due = answersTold(program);
            checks.isTrue("it tells answers", !due.isEmpty());
            due.add("exit code 0");
            List<String> found = outputOf(compileAndRun.replace(first, name), project);
            for (int line = 0; line < Math.max(due.size(), found.size()); line++) {
                checks.sameText("line " + (line + 1), lineOr(found, line), lineOr(due, line));
            }
        }
    }

    private static String nameOf(List<String> program) {
        for (String line : program) {
            Matcher name = NAME.matcher(line);
            if (name.find()) {
                return name.group(1);
            }
        }
        return "a program without a name";
    }

    private static List<String> answersTold(List<String> program) {
        List<String> answers = new ArrayList<>();
        for (String line : program) {
            Matcher told = PRINTS_ANSWER.matcher(line);
            if (told.matches()) {
                answers.add(told.group(1).strip());
            } else {
                checks.isTrue("the answer is told: " + line.strip(), !line.contains(PRINTS));
            }
        }
        return answers;
    }

    private static String lineOr(List<String> lines, int index) {
        return index < lines.size() ? lines.get(index) : "no such line";
    }

    private static void commandsWork(Path project) throws IOException, InterruptedException {
        checks.about("README.md");
        boolean tellsAllTests = false;
        for (List<String> block : commands) {
            String command = String.join("\n", block);
            if (command.equals(ALL_TESTS)) {
                tellsAllTests = true;
                checks.isTrue(ALL_TESTS + " can be run", Files.isExecutable(Path.of(ALL_TESTS)));
            } else {
                List<String> output = outputOf(command, project);
                checks.sameText(command + output, output.get(output.size() - 1), "exit code 0");
            }
        }
        checks.isTrue("it tells how to run all tests", tellsAllTests);
    }

    /** What the commands print, and how they end. */
    private static List<String> outputOf(String command, Path project) throws IOException, InterruptedException {
        Process process = new ProcessBuilder("sh", "-e", "-c", command)
            .directory(project.toFile()).redirectError(ProcessBuilder.Redirect.INHERIT).start();
        process.getOutputStream().close();
        String output = new String(process.getInputStream().readAllBytes());
        List<String> lines = output.lines().collect(Collectors.toCollection(ArrayList::new));
        lines.add("exit code " + process.waitFor());
        return lines;
    }

    private static void tablesLeaveNothingOut() throws IOException {
        checks.about("README.md");
        List<String> due = callsOfTheFace();
        for (String call : due) {
            String shown = "harp." + call.substring(0, call.indexOf('(') + 1);
            checks.isTrue("a program shows " + shown, programs.toString().contains(shown));
        }
        for (Path test : tests()) {
            String name = test.getFileName().toString().replace(".java", "");
            if (name.endsWith("Test")) {
                due.add(name);
            }
        }
        List<String> rows = rows();
        checks.same("rows of its tables", rows.size(), due.size());
        for (String one : due) {
            checks.isTrue("a row for " + one, rows.contains(one));
        }
        numbersAreToldAsInTheDocument();
    }

    private static List<String> callsOfTheFace() {
        List<String> calls = new ArrayList<>();
        for (String line : Markdown.blocks(Markdown.DOCUMENT, "java").get(0)) {
            Matcher call = CALL.matcher(line.strip());
            if (call.matches()) {
                calls.add(call.group(1) + call.group(2));
            }
        }
        return calls;
    }

    private static List<String> rows() {
        List<String> rows = new ArrayList<>();
        for (String line : Markdown.lines(README)) {
            Matcher row = ROW.matcher(line);
            if (row.matches()) {
                rows.add(row.group(1));
            }
        }
        return rows;
    }

    private static void numbersAreToldAsInTheDocument() {
        String page = Markdown.lines(README).toString();
        int lists = 0;
        for (String line : Markdown.lines(Markdown.DOCUMENT)) {
            int start = line.indexOf(WHAT);
            if (start >= 0) {
                lists++;
                checks.isTrue("it tells " + line, page.contains(line.substring(start + WHAT.length())));
            }
        }
        checks.same("lists of numbers in the document", lists, 5);
    }
}
