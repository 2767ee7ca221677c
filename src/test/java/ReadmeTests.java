import java.io.IOException;
import java.nio.file.Files;
import java.nio.file.Path;
import java.util.ArrayList;
import java.util.LinkedHashMap;
import java.util.List;
import java.util.Map;
import java.util.Set;
import java.util.TreeSet;
import java.util.regex.Matcher;
import java.util.regex.Pattern;
import java.util.stream.Collectors;
import java.util.stream.Stream;
import javax.tools.ToolProvider;

/**
 * What README.md shows: each call is one that the document has, and answers as the comment behind it
 * says, in the class and in the plain model of the document. Its code is compiled as it stands.
 */
public final class ReadmeTests {
    private static final Path README = Path.of("README.md");
    private static final Path DOCUMENT = Path.of("../shared/DOC.md");
    private static final String NEW_BOARD = "WicketBoard board = new WicketBoard();";
    private static final Pattern CALL =
            Pattern.compile("((?:board\\.|)(\\w+)\\(.*\\));\\s*// (NONE|-?\\d+|true|false|throws \\w+)(?![\\w.]).*");

    private static int wrong = 0;
    private static int answers = 0;

    public static void main(String[] args) throws Exception {
        String readme = Files.readString(README);
        Map<String, String> face = documentFace(Files.readString(DOCUMENT));
        List<String> blocks = codeBlocks(readme, "java");
        callsAreOfTheDocument(readme, blocks, face);
        everyCallIsShown(readme, blocks, face);
        answersAreDue(blocks);
        namedFilesAreThere(readme);
        System.out.println(answers + " answers of README.md were looked at, " + wrong + " faults");
        System.exit(wrong == 0 && answers > 0 ? 0 : 1);
    }

    private static void check(boolean good, String what) {
        if (!good) {
            wrong++;
            System.out.println("README.md: " + what);
        }
    }

    /** The code that README.md has been made into calls this for each answer. */
    static void due(String board, String line, Object got, Object want) {
        answers++;
        check(want.equals(got), "in " + board + " '" + line + "' answers " + got);
    }

    /** The names of the document's calls, each with the names of its parameters. */
    private static Map<String, String> documentFace(String document) {
        Map<String, String> face = new LinkedHashMap<>();
        Matcher call = Pattern.compile("public (?:int|boolean) (\\w+)\\((.*?)\\)").matcher(document);
        while (call.find()) {
            face.put(call.group(1), call.group(2).replaceAll("(?:int|boolean) ", ""));
        }
        check(face.size() == 19, "of the document's calls " + face.size() + " were found");
        return face;
    }

    private static List<String> codeBlocks(String text, String language) {
        List<String> blocks = new ArrayList<>();
        Matcher block = Pattern.compile("```" + language + "\n(.*?)```", Pattern.DOTALL).matcher(text);
        while (block.find()) {
            blocks.add(block.group(1));
        }
        return blocks;
    }

    private static Set<String> calledIn(List<String> blocks) {
        Set<String> names = new TreeSet<>();
        for (String block : blocks) {
            Matcher call = Pattern.compile("\\bboard\\.(\\w+)").matcher(block);
            while (call.find()) {
                names.add(call.group(1));
            }
        }
        return names;
    }

    /** Calls told in words, between backticks: name to parameters. */
    private static Map<String, String> toldCalls(String readme) {
        Map<String, String> told = new LinkedHashMap<>();
        Matcher call = Pattern.compile("`(\\w+)\\(([^`]*)\\)`").matcher(readme);
        while (call.find()) {
            told.put(call.group(1), call.group(2));
        }
        return told;
    }

    private static void callsAreOfTheDocument(String readme, List<String> blocks, Map<String, String> face) {
        for (String name : calledIn(blocks)) {
            check(face.containsKey(name), "the document has no call " + name);
        }
        toldCalls(readme).forEach((name, parameters) ->
                check(parameters.equals(face.get(name)), "the document has no " + name + "(" + parameters + ")"));
    }

    private static void everyCallIsShown(String readme, List<String> blocks, Map<String, String> face) {
        for (String name : face.keySet()) {
            check(calledIn(blocks).contains(name), "no code shows " + name);
            check(toldCalls(readme).containsKey(name), "the list of calls lacks " + name);
        }
    }

    private static void answersAreDue(List<String> blocks) throws Exception {
        String code = blocks.stream().map(ReadmeTests::made).collect(Collectors.joining("\n"));
        for (Class<?> board : List.of(WicketBoard.class, PlainBoard.class)) {
            String name = board.getSimpleName();
            tryCode("Readme" + name, code.replaceAll("\\bWicketBoard\\b", name));
        }
    }

    private static String made(String block) {
        return block.startsWith(NEW_BOARD) ? "static {\n" + madeRun(block) + "}\n" : block;
    }

    /** Each line of a run is a call whose answer stands behind it. */
    private static String madeRun(String block) {
        StringBuilder code = new StringBuilder(NEW_BOARD + "\n");
        for (String line : block.substring(NEW_BOARD.length()).split("\n")) {
            Matcher call = CALL.matcher(line);
            if (call.matches()) {
                code.append(madeCall(call.group(1), call.group(3)));
            } else {
                check(line.isBlank(), "'" + line + "' is not a call with its answer");
            }
        }
        return code.toString();
    }

    private static String madeCall(String call, String answer) {
        String start = "ReadmeTests.due(\"WicketBoard\", \"" + call.replace("\"", "\\\"") + "\", ";
        if (!answer.startsWith("throws ")) {
            return start + call + ", " + answer.replace("NONE", "-1") + ");\n";
        }
        String thrown = "java.util." + answer.substring("throws ".length());
        return "try { " + start + call + ", \"it throws\"); }\n"
                + "catch (" + thrown + " e) { " + start + "\"it throws\", \"it throws\"); }\n";
    }

    /** Compiles the code to where this class is, so that both are of one package, and runs it. */
    private static void tryCode(String name, String code) throws Exception {
        Path classes = Path.of(ReadmeTests.class.getProtectionDomain().getCodeSource().getLocation().toURI());
        Path source = Files.createTempDirectory("readme").resolve(name + ".java");
        Files.writeString(source, "final class " + name + " {\n" + code + "}\n");
        int exit = ToolProvider.getSystemJavaCompiler().run(null, null, null,
                "-cp", classes.toString(), "-d", classes.toString(), source.toString());
        check(exit == 0, "its code does not compile with " + name);
        Files.delete(source);
        Files.delete(source.getParent());
        if (exit == 0) {
            Class.forName(name);
        }
    }

    private static void namedFilesAreThere(String readme) throws IOException {
        Set<String> named = new TreeSet<>();
        Matcher file = Pattern.compile("`((?:src|\\.\\.)/[\\w/.]+\\.(?:java|md))`").matcher(readme);
        while (file.find()) {
            named.add(file.group(1));
            check(Files.exists(Path.of(file.group(1))), "there is no " + file.group(1));
        }
        try (Stream<Path> tests = Files.list(Path.of("src/test/java"))) {
            tests.forEach(test -> check(named.contains(test.toString()), test + " is not named"));
        }
    }
}
