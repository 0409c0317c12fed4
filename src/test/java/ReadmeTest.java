import java.io.IOException;
import java.lang.reflect.Method;
import java.lang.reflect.Modifier;
import java.nio.charset.StandardCharsets;
import java.nio.file.Files;
import java.nio.file.Path;
import java.util.ArrayList;
import java.util.Comparator;
import java.util.List;
import java.util.regex.Matcher;
import java.util.regex.Pattern;
import java.util.stream.Stream;

/** README.md by its words: its program and its commands are run, and its lists are held against the project. */
public final class ReadmeTest {
    /** The folder that README.md tells to use; each run takes one of its own in its place. */
    private static final String FOLDER = "/tmp/brief";
    private static final String ALL_TESTS = ".ci/run\n";

    private final Check check = new Check("ReadmeTest");
    private final String page;

    private ReadmeTest(String page) {
        this.page = page;
    }

    public static void main(String[] args) throws IOException, InterruptedException {
        ReadmeTest test = new ReadmeTest(Files.readString(Path.of("README.md"), StandardCharsets.UTF_8));
        test.namesEachCall();
        test.namesEachTest();
        test.namesWhatRunsAllTests();
        test.commandsWork();
        test.check.close();
    }

    private void namesEachCall() {
        for (Method method : BriefBuilder.class.getDeclaredMethods()) {
            if (Modifier.isPublic(method.getModifiers())) {
                String row = "(?m)^\\| `" + method.getName() + "\\((.*?)\\)` \\| .+ \\|$";
                Matcher found = Pattern.compile(row).matcher(page);
                int parameters = found.find() ? parametersIn(found.group(1)) : -1;
                check.due("parameters of " + method.getName() + " in its row", parameters, method.getParameterCount());
            }
        }
    }

    private static int parametersIn(String names) {
        return names.isEmpty() ? 0 : names.split(", ").length;
    }

    private void namesEachTest() throws IOException {
        List<String> tests;
        try (Stream<Path> files = Files.list(Path.of("src/test/java"))) {
            tests = files.map(file -> file.getFileName().toString())
                    .filter(name -> name.endsWith("Test.java")).toList();
        }
        for (String test : tests) {
            String line = "- `" + test.replace(".java", "") + "`: ";
            check.due("whether README.md tells of " + test, page.contains(line) ? 1 : 0, 1);
        }
    }

    private void namesWhatRunsAllTests() {
        check.due("whether README.md names .ci/run as a command", blocks("sh").contains(ALL_TESTS) ? 1 : 0, 1);
        check.due("whether .ci/run can be run", Files.isExecutable(Path.of(".ci/run")) ? 1 : 0, 1);
    }

    /** The first block of commands runs the program of the page; the others run one test each. */
    private void commandsWork() throws IOException, InterruptedException {
        List<String> programs = blocks("java");
        List<String> printed = blocks("text");
        check.due("programs", programs.size(), 1);
        check.due("blocks of what is printed", printed.size(), 1);
        if (programs.isEmpty() || printed.isEmpty()) {
            return;
        }
        boolean first = true;
        for (String commands : blocks("sh")) {
            if (commands.equals(ALL_TESTS) || namesWhatIsGone(commands)) {
                continue;
            }
            Path folder = Files.createTempDirectory("brief");
            try {
                Files.writeString(folder.resolve("Sample.java"), programs.get(0), StandardCharsets.UTF_8);
                String told = run(commands.replace(FOLDER, folder.toString()));
                if (first) {
                    check.dueText("the program of README.md", told, printed.get(0));
                }
            } finally {
                remove(folder);
            }
            first = false;
        }
    }

    /** The tests under ../shared come from elsewhere: another name there is no fault of this project. */
    private static boolean namesWhatIsGone(String commands) {
        Matcher shared = Pattern.compile("\\.\\./shared/\\S+").matcher(commands);
        return shared.find() && !Files.exists(Path.of(shared.group()));
    }

    private String run(String commands) throws IOException, InterruptedException {
        Process process = new ProcessBuilder("sh", "-e", "-c", commands).redirectErrorStream(true).start();
        process.getOutputStream().close();
        String told = new String(process.getInputStream().readAllBytes(), StandardCharsets.UTF_8);
        int code = process.waitFor();
        check.dueText("the exit code of\n" + commands + "which told\n" + told, Integer.toString(code), "0");
        return told;
    }

    private List<String> blocks(String kind) {
        List<String> found = new ArrayList<>();
        Matcher block = Pattern.compile("(?ms)^```" + kind + "\n(.*?)^```$").matcher(page);
        while (block.find()) {
            found.add(block.group(1));
        }
        return found;
    }

    private static void remove(Path folder) throws IOException {
        List<Path> paths;
        try (Stream<Path> all = Files.walk(folder)) {
            paths = all.sorted(Comparator.reverseOrder()).toList();
        }
        for (Path path : paths) {
            Files.delete(path);
        }
    }
}
