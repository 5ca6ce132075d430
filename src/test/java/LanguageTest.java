import java.io.IOException;
import java.nio.file.Files;
import java.nio.file.Path;
import java.util.ArrayList;
import java.util.List;
import java.util.regex.Matcher;
import java.util.regex.Pattern;

/** The rules of LANGUAGE.md that the text of the class shows; it is run from the project's root. */
public final class LanguageTest {
    private static final Path SOURCE = Path.of("src/main/java/InkPad.java");
    private static final String[] WORDS = {
        "throw", "throws", "try", "catch", "finally", "synchronized", "assert", "import", "package",
        "volatile", "native", "transient", "protected", "instanceof", "double", "float", "long",
        "String", "StringBuilder", "Object", "Thread", "Random", "while"};
    private static final String[] PATTERNS = {
        "\\bSystem\\.(?!arraycopy)", "\\bMath\\.(?!(min|max)\\()", "->", "::", "@"};
    private static final int LONGEST_METHOD = 60;

    public static void main(String[] args) throws IOException {
        Due due = new Due();
        String code = withoutComments(Files.readString(SOURCE));
        forbidden(due, code);
        onlyRoomOfTheConstructor(due, code);
        methodLengths(due, code);
        parameters(due, code);
        signs(due, Files.readString(SOURCE));
        due.end();
    }

    private static String withoutComments(String text) {
        return text.replaceAll("(?s)/\\*.*?\\*/", "").replaceAll("//[^\n]*", "");
    }

    /** Also what the rules allow but this class does not need: then it needs no look here either. */
    private static void forbidden(Due due, String code) {
        for (String word : WORDS) {
            absent(due, code, "\\b" + word + "\\b");
        }
        for (String pattern : PATTERNS) {
            absent(due, code, pattern);
        }
    }

    private static void absent(Due due, String code, String pattern) {
        if (Pattern.compile(pattern).matcher(code).find()) {
            due.wrong("forbidden: " + pattern);
        }
    }

    /** Nothing is made but in the constructor and in fields, so that no call takes room. */
    private static void onlyRoomOfTheConstructor(Due due, String code) {
        for (String line : code.split("\n")) {
            boolean inField = line.matches(" +(private )?final int\\[\\] \\w+ = new int\\[[\\w* ]+\\];")
                    || line.matches(" +private final char\\[\\] \\w+ = new char\\[MAX_TEXT\\];");
            boolean inConstructor = line.matches(" {8}\\w+ = new \\w+\\(\\);");
            if (line.contains("new ") && !inField && !inConstructor) {
                due.wrong("makes something: " + line.trim());
            }
        }
    }

    private static void methodLengths(Due due, String code) {
        List<Integer> starts = new ArrayList<>();
        String[] lines = code.split("\n");
        for (int i = 0; i < lines.length; i++) {
            if (lines[i].matches(" {4}( {4})?[^ ].*\\) \\{") && !lines[i].matches(" *(if|for|switch).*")) {
                String end = lines[i].replaceAll("[^ ].*", "") + "}";
                int last = i;
                while (last < lines.length - 1 && !lines[last].equals(end)) {
                    last++;
                }
                starts.add(i);
                if (last - i > LONGEST_METHOD) {
                    due.wrong("too long: " + lines[i].trim());
                }
            }
        }
        if (starts.size() < 60) {
            due.wrong("methods seen are few: " + starts.size());
        }
    }

    private static void parameters(Due due, String code) {
        Matcher matcher = Pattern.compile("\\(([^()]*)\\) \\{").matcher(code);
        while (matcher.find()) {
            if (matcher.group(1).split(",").length > 7) {
                due.wrong("too many parameters: " + matcher.group());
            }
        }
    }

    private static void signs(Due due, String text) {
        for (int i = 0; i < text.length(); i++) {
            if (text.charAt(i) > 126) {
                due.wrong("a sign that is not ASCII at " + i);
            }
        }
    }
}
