import java.io.IOException;
import java.nio.file.Files;
import java.nio.file.Path;
import java.util.Set;
import java.util.TreeSet;
import java.util.regex.Matcher;
import java.util.regex.Pattern;

/** What ../shared/LANGUAGE.md rules out by words does not stand in the class. Runs in the project's root. */
public final class LanguageTest {
    private static final Path PROGRAM = Path.of("src/main/java/HandBlinds.java");
    private static final int LONGEST_METHOD = 60;

    /** Rule's number, and what must not be found in the program without its comments and texts. */
    private static final String[][] RULED_OUT = {
        {"0", "\\b(import|package)\\b"},
        {"2", "->|::"},
        {"3", "\\b(var|Object|Long|Float|Double|Character|Boolean)\\b(?!\\.)"},
        {"4", "\\.(floatToIntBits|floatToRawIntBits|intern|format|valueOf|split|stream)\\b|\\b\\w+Exact\\b"},
        {"5", "\\bstatic\\s*\\{|\\bstatic (?!final|int|boolean|char|long|void|class|float)\\w"},
        {"6", "\\b(try|catch|finally|throw|throws|synchronized|assert|equals|hashCode|toString)\\b"},
        {"10", "\"\"\\s*\\+|\\+\\s*\"\""},
        {"13", "\\b(System\\.(?!arraycopy)\\w+|Thread|Random|Runtime)\\b"}};

    private static final Set<String> LIBRARY = Set.of("System.arraycopy", "Math.abs", "Integer.bitCount");
    private static final Pattern STATIC_CALL = Pattern.compile("\\b(System|Math|Integer|Arrays|Long|List)\\.\\w+");
    private static final Pattern HEAD = Pattern.compile("( +)[\\w\\[\\] ]+\\(.*\\) \\{");

    private static int wrong = 0;

    private static void due(String what, boolean good) {
        if (!good) {
            wrong++;
            System.out.println(what);
        }
    }

    public static void main(String[] arguments) throws IOException {
        String program = Files.readString(PROGRAM);
        due("a sign above 127", program.chars().allMatch(sign -> sign < 128));
        String code = withoutCommentsAndTexts(program);
        for (String[] rule : RULED_OUT) {
            Matcher found = Pattern.compile(rule[1]).matcher(code);
            due("rule " + rule[0] + " against " + rule[1], !found.find());
        }
        libraryIsAllowed(code);
        methodsAreShort(program.split("\n"));
        System.out.println(wrong == 0 ? "the language is kept to" : wrong + " rules are broken");
        if (wrong != 0) {
            System.exit(1);
        }
    }

    private static String withoutCommentsAndTexts(String program) {
        return program.replaceAll("(?s)/\\*.*?\\*/", "").replaceAll("//[^\n]*", "").replaceAll("\"[^\"\n]*\"", "\"\"");
    }

    private static void libraryIsAllowed(String code) {
        Set<String> used = new TreeSet<>();
        Matcher call = STATIC_CALL.matcher(code);
        while (call.find()) {
            used.add(call.group());
        }
        due("calls of the library: " + used, LIBRARY.containsAll(used));
    }

    private static void methodsAreShort(String[] lines) {
        int methods = 0;
        for (int i = 0; i < lines.length; i++) {
            Matcher head = HEAD.matcher(lines[i]);
            if (head.matches() && !lines[i].trim().matches("(if|for|while|switch|\\}).*")) {
                methods++;
                int end = i;
                while (end < lines.length - 1 && !lines[end].equals(head.group(1) + "}")) {
                    end++;
                }
                due("a long method: " + lines[i], end - i < LONGEST_METHOD);
            }
        }
        due("methods found: " + methods, methods > 60);
    }
}
