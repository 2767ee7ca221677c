import java.io.IOException;
import java.nio.file.Files;
import java.nio.file.Path;
import java.nio.file.StandardCopyOption;
import java.util.ArrayList;
import java.util.Comparator;
import java.util.List;
import java.util.regex.Matcher;
import java.util.regex.Pattern;
import java.util.stream.Stream;

/**
 * The command that README.md names for the tests is the one that runs them. It is tried on copies of
 * the project that have two small tests instead of the real ones, which may pass, fail, or not
 * compile: both must be run, and the command must fail if one fails.
 */
public final class CommandTests {
    private static final String OWN = "src/test/java/OwnTest.java";
    private static final String SHARED = "../shared/tests/SharedTest.java";
    private static int wrong = 0;

    public static void main(String[] args) throws Exception {
        String command = namedCommand(Files.readString(Path.of("README.md")));
        check(Files.isExecutable(Path.of(".ci/run")), ".ci/run is not executable");
        List<Trial> trials = new ArrayList<>();
        trials.add(new Trial(command, exitWith(0), exitWith(0), "ok      " + OWN, "ok      " + SHARED));
        trials.add(new Trial(command, exitWith(1), exitWith(0), "FAILED  " + OWN, "ok      " + SHARED));
        trials.add(new Trial(command, exitWith(0), exitWith(1), "ok      " + OWN, "FAILED  " + SHARED));
        trials.add(new Trial(command, "no Java", exitWith(0), "FAILED  " + OWN, "ok      " + SHARED));
        trials.add(new Trial(command, exitWith(0), null, "ok      " + OWN, "FAILED  no test under ../shared/tests"));
        for (Trial trial : trials) {
            trial.look();
        }
        System.out.println(trials.size() + " trials of '" + command + "', " + wrong + " faults");
        System.exit(wrong == 0 ? 0 : 1);
    }

    private static void check(boolean good, String what) {
        if (!good) {
            wrong++;
            System.out.println(what);
        }
    }

    /** The one line of code in README.md's part on its tests. */
    private static String namedCommand(String readme) {
        Matcher part = Pattern.compile("## How to run its tests\n(.*?)(?:\n## |\\z)", Pattern.DOTALL).matcher(readme);
        check(part.find(), "README.md does not say how to run its tests");
        Matcher code = Pattern.compile("```sh\n(.*?)\n```", Pattern.DOTALL).matcher(part.group(1));
        check(code.find(), "README.md names no command for its tests");
        String command = code.group(1);
        check(!command.contains("\n") && !code.find(), "README.md names more than one command");
        return command;
    }

    /** The main method of a small test that makes a board. */
    private static String exitWith(int code) {
        return "public static void main(String[] args) { System.exit(new WicketBoard().next() - 1 + " + code + "); }";
    }

    private static final class Trial {
        private final Path root = Files.createTempDirectory("command");
        private final Process process;
        private final String ownLine;
        private final String sharedLine;

        Trial(String command, String own, String shared, String ownLine, String sharedLine) throws IOException {
            this.ownLine = ownLine;
            this.sharedLine = sharedLine;
            Path project = root.resolve("main");
            Files.createDirectories(root.resolve("shared/tests"));
            for (String folder : new String[] {".ci", "src/main/java", "src/test/java", "src/test/support"}) {
                Files.createDirectories(project.resolve(folder));
            }
            for (String file : new String[] {".ci/run", "src/main/java/WicketBoard.java"}) {
                Files.copy(Path.of(file), project.resolve(file), StandardCopyOption.COPY_ATTRIBUTES);
            }
            writeTest(project, OWN, "OwnTest", own);
            writeTest(project, SHARED, "SharedTest", shared);
            process = new ProcessBuilder("bash", "-c", command).directory(project.toFile())
                    .redirectErrorStream(true).redirectOutput(root.resolve("told").toFile()).start();
        }

        private static void writeTest(Path project, String file, String name, String main) throws IOException {
            if (main != null) {
                Files.writeString(project.resolve(file), "public final class " + name + " { " + main + " }\n");
            }
        }

        void look() throws Exception {
            int exit = process.waitFor();
            String told = Files.readString(root.resolve("told"));
            boolean passes = ownLine.startsWith("ok") && sharedLine.startsWith("ok");
            boolean good = told.contains(ownLine) && told.contains(sharedLine) && exit == 0 == passes;
            check(good, "due are '" + ownLine + "' and '" + sharedLine + "', but exit code " + exit + " and\n" + told);
            try (Stream<Path> files = Files.walk(root)) {
                files.sorted(Comparator.reverseOrder()).forEach(file -> file.toFile().delete());
            }
        }
    }
}
