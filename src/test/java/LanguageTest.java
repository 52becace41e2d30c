import java.io.IOException;
import java.nio.file.Files;
import java.nio.file.Path;
import java.util.ArrayDeque;
import java.util.Deque;
import java.util.regex.Matcher;
import java.util.regex.Pattern;

/** Checks the rules of LANGUAGE.md that can be seen in the words of the source. */
public final class LanguageTest {
    private static final Path SOURCE = Path.of("src/main/java/VaneUnion.java");
    private static final String[][] FORBIDDEN = {
        {"1", "^[ ]+(public|protected) (?!VaneUnion\\(\\)|int |long |float |double |boolean |char )"},
        {"2", "->|::"},
        {"4", "Exact\\b|\\bSystem\\.(?!arraycopy)|String\\.(format|valueOf|join)|\\bCharacter\\.|\\bDouble\\.|\\bFloat\\."},
        {"4", "^import (?!java\\.util\\.NoSuchElementException;)"},
        {"5", "\\bstatic (?!final\\b)(?!.*\\()[^{]*;|^\\s*static \\{"},
        {"6", "\\b(finally|synchronized|assert|getMessage|extends \\w*Exception)\\b|\\bcatch \\((Throwable|Exception|Error)\\b"},
        {"6", "\\b(equals|hashCode|toString)\\("},
        {"10", "\"\\s*\\+|\\+\\s*\""},
        {"13", "\\b(Random|Thread|nanoTime|currentTimeMillis|getenv)\\b"},
    };
    private static final int LONGEST_METHOD = 60;
    private static final int CLASS_LIMIT = 12;

    private static int wrong;

    public static void main(String[] args) throws IOException {
        String source = Files.readString(SOURCE).replaceAll("(?s)/\\*.*?\\*/", "").replaceAll("//.*", "");
        for (String[] rule : FORBIDDEN) {
            Matcher matcher = Pattern.compile(rule[1], Pattern.MULTILINE).matcher(source);
            while (matcher.find()) {
                tell(rule[0], matcher.group().trim());
            }
        }
        checkCharacters(source);
        checkLengths(source);
        if (Pattern.compile("\\b(class|enum|record|interface) [A-Z]").matcher(source).results().count() > CLASS_LIMIT) {
            tell("11", "too many classes");
        }
        System.out.println("LanguageTest: " + wrong + " wrong");
        if (wrong != 0) {
            System.exit(1);
        }
    }

    private static void checkCharacters(String source) {
        if (source.chars().anyMatch(c -> c > 126)) {
            tell("4", "a sign beyond 126");
        }
    }

    /** Counts the lines of each block that stands right in a class. */
    private static void checkLengths(String source) {
        Deque<Integer> starts = new ArrayDeque<>();
        Deque<Boolean> classes = new ArrayDeque<>();
        int headStart = 0;
        int line = 1;
        for (int i = 0; i < source.length(); i++) {
            char c = source.charAt(i);
            if (c == '\n') {
                line++;
            } else if (c == '{') {
                classes.push(source.substring(headStart, i).matches("(?s).*\\b(class|enum|record|interface)\\b.*"));
                starts.push(line);
            } else if (c == '}') {
                boolean isClass = classes.pop();
                int start = starts.pop();
                if (!isClass && !classes.isEmpty() && classes.peek() && line - start >= LONGEST_METHOD) {
                    tell("11", "too long a method, with " + (line - start + 1) + " lines");
                }
            }
            if (c == ';' || c == '{' || c == '}') {
                headStart = i + 1;
            }
        }
    }

    private static void tell(String rule, String what) {
        wrong++;
        System.out.println("rule " + rule + ": " + what);
    }
}
