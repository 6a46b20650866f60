import java.io.IOException;
import java.nio.file.Files;
import java.nio.file.Path;
import java.util.List;
import java.util.Set;
import java.util.regex.Matcher;
import java.util.regex.Pattern;

/** Rules of ../shared/LANGUAGE.md that can be seen in the text of the class; run from the project's folder. */
public final class LanguageTest {
    private static final Path SOURCE = Path.of("src", "main", "java", "PostHouse.java");
    private static final Set<String> THROWN = Set.of("IllegalStateException", "IllegalArgumentException",
            "IndexOutOfBoundsException", "ArithmeticException", "UnsupportedOperationException",
            "NoSuchElementException", "RuntimeException");
    private static final int MOST_LINES = 60;

    private LanguageTest() {
    }

    public static void main(String[] args) throws IOException {
        String source = Files.readString(SOURCE);
        String code = source.replaceAll("(?s)/\\*.*?\\*/", "").replaceAll("//.*", "");
        imports(code);
        wordsThatAreRuledOut(code);
        exceptions(code);
        methodsAreShort(source.lines().toList());
        Check.finish();
    }

    private static void dueNone(String rule, String code, String pattern) {
        Matcher found = Pattern.compile(pattern).matcher(code);
        Check.due(rule, found.find() ? found.group() : "nothing", "nothing");
    }

    private static void imports(String code) {
        dueNone("no package line", code, "(?m)^package .*");
        dueNone("rule 4: the library", code,
                "(?m)^import (?!java\\.util\\.(NoSuchElementException|ArrayList|List|Arrays);).*");
        dueNone("rule 4: Math", code, "Math\\.(?!max\\b|min\\b|abs\\b|floorDiv\\b|floorMod\\b)\\w+");
        dueNone("rule 13: the System", code, "System\\.(?!arraycopy\\b)\\w+");
    }

    private static void wordsThatAreRuledOut(String code) {
        String texts = code.replaceAll("\"[^\"]*\"", "\"\"");
        dueNone("rule 2: no lambda, no method reference", texts, "->|::");
        dueNone("rule 5: no static block", texts, "static\\s*\\{");
        dueNone("rule 6: words ruled out", texts, "\\b(finally|synchronized|assert|goto|native|volatile)\\b");
        dueNone("rule 6: no methods of all objects", texts, "\\b(equals|hashCode|toString|getMessage|getClass)\\b");
        dueNone("rule 9: no loop without an end", texts, "while \\(true\\)|for \\(;;\\)");
        dueNone("rule 10: no texts joined by +", code, "\"\\s*\\+|\\+\\s*\"");
    }

    private static void exceptions(String code) {
        Matcher thrown = Pattern.compile("throw\\b(?!s)\\s*(.*);").matcher(code);
        while (thrown.find()) {
            Matcher made = Pattern.compile("new (\\w+)\\((\"[^\"]*\")?\\)").matcher(thrown.group(1));
            boolean right = made.matches() && THROWN.contains(made.group(1));
            Check.due("rule 6: " + thrown.group(), right, true);
        }
        dueNone("no answer by catching", code, "\\bcatch\\b");
    }

    /** A method begins at a line that ends with an open brace and ends at the brace of the same depth. */
    private static void methodsAreShort(List<String> lines) {
        Pattern head = Pattern.compile("( {4}| {8})(\\w.*\\) |\\s+throws .*)\\{");
        for (int first = 0; first < lines.size(); first++) {
            Matcher begun = head.matcher(lines.get(first));
            if (begun.matches() && !lines.get(first).contains("class ")) {
                String end = begun.group(1) + "}";
                int last = first;
                while (last < lines.size() && !lines.get(last).equals(end)) {
                    last++;
                }
                Check.due("rule 11: lines from " + (first + 1), last - first < MOST_LINES, true);
            }
        }
    }
}
