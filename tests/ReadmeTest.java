import java.io.IOException;
import java.nio.file.DirectoryStream;
import java.nio.file.Files;
import java.nio.file.Path;
import java.util.ArrayList;
import java.util.List;
import java.util.regex.Matcher;
import java.util.regex.Pattern;

/** What README.md says is so: its example answers as its comments say, and what it names is there. Runs in the root. */
public final class ReadmeTest {
    private static final Pattern ANSWERED = Pattern.compile("(?:int (\\w+) = )?(blind\\..*);\\s+// (-?\\d+)(?:: .*)?");
    private static final Pattern FILE = Pattern.compile("`((?:src|tests|\\.ci|\\.\\.)/[^`]*)`");
    private static final int LEAST_ANSWERS = 10;

    private static int wrong = 0;

    private static void due(String what, boolean good) {
        if (!good) {
            wrong++;
            System.out.println(what);
        }
    }

    public static void main(String[] arguments) throws IOException, InterruptedException {
        String readme = Files.readString(Path.of("README.md"));
        exampleAnswers(readme);
        namedFilesAreThere(readme);
        testsAreNamed(readme);
        callsAreNamed(readme);
        System.out.println(wrong == 0 ? "README.md is so" : wrong + " things of README.md are not so");
        if (wrong != 0) {
            System.exit(1);
        }
    }

    private static void exampleAnswers(String readme) throws IOException, InterruptedException {
        int from = readme.indexOf("```java\n");
        int to = readme.indexOf("\n```\n", from + 1);
        due("no example in README.md", from >= 0 && to > from);
        if (from < 0 || to < from) {
            return;
        }
        StringBuilder body = new StringBuilder();
        int answers = 0;
        for (String line : readme.substring(from + 8, to).split("\n")) {
            Matcher answered = ANSWERED.matcher(line);
            if (answered.matches()) {
                answers++;
                body.append(asked(answered));
            } else {
                due("a comment that is no answer: " + line, !line.contains("//"));
                body.append(line).append('\n');
            }
        }
        due("too few answers in the example: " + answers, answers >= LEAST_ANSWERS);
        runExample(body.toString());
    }

    /** The line as a test: its answer under the name that it has in the example, or under none. */
    private static String asked(Matcher line) {
        String asking = "ask(\"" + line.group(2).replace("\"", "'") + "\", " + line.group(2) + ", " + line.group(3) + ");\n";
        return line.group(1) == null ? asking : "int " + line.group(1) + " = " + asking;
    }

    private static void runExample(String body) throws IOException, InterruptedException {
        Path folder = Files.createDirectories(Path.of("build", "readme"));
        Path source = folder.resolve("Example.java");
        Files.writeString(source, "public final class Example {\n"
            + "static boolean good = true;\n"
            + "static int ask(String call, int got, int want) {\n"
            + "if (got != want) { good = false; System.out.println(call + \" answered \" + got + \", README.md says \" + want); }\n"
            + "return got; }\n"
            + "public static void main(String[] arguments) {\n" + body + "System.exit(good ? 0 : 1); } }\n");
        List<String> command = new ArrayList<>();
        command.add(Path.of(System.getProperty("java.home"), "bin", "java").toString());
        command.add("-cp");
        command.add(System.getProperty("java.class.path"));
        command.add(source.toString());
        int ended = new ProcessBuilder(command).inheritIO().start().waitFor();
        due("the example of README.md does not answer as it says", ended == 0);
    }

    private static void namedFilesAreThere(String readme) {
        Matcher file = FILE.matcher(readme);
        int files = 0;
        while (file.find()) {
            files++;
            due(file.group(1) + " is named, but not there", Files.exists(Path.of(file.group(1))));
        }
        due("README.md names no files", files > 0);
        due(".ci/run cannot be run", Files.isExecutable(Path.of(".ci/run")));
        due("README.md does not tell how to run the tests", readme.contains("\n    .ci/run\n"));
    }

    private static void testsAreNamed(String readme) throws IOException {
        try (DirectoryStream<Path> tests = Files.newDirectoryStream(Path.of("tests"), "*.java")) {
            for (Path test : tests) {
                due(test + " is not named", readme.contains("`tests/" + test.getFileName() + "`"));
            }
        }
    }

    private static void callsAreNamed(String readme) {
        for (java.lang.reflect.Method call : HandBlinds.class.getMethods()) {
            if (call.getDeclaringClass() == HandBlinds.class) {
                due(call.getName() + " is not told", readme.contains("`" + call.getName() + "("));
            }
        }
        for (java.lang.reflect.Field constant : HandBlinds.class.getFields()) {
            due(constant.getName() + " is not told", readme.contains("`" + constant.getName() + "`"));
        }
    }
}
