import java.nio.file.Files;
import java.nio.file.Path;
import java.util.List;
import java.util.regex.Matcher;
import java.util.regex.Pattern;

/** What can be seen of LANGUAGE.md by looking for words; it needs the project's folder as the present one. */
public final class LanguageTest {
    /** Ways of writing that no rule allows, or that this program has no need of. */
    private static final List<String> NEVER = List.of("->", "::", "Exact\\b", "\\btry\\b", "\\bcatch\\b",
            "\\bfinally\\b", "\\bassert\\b", "\\bsynchronized\\b", "\\brecord\\s+[A-Z]", "\\bvar\\b",
            "\\bdouble\\b", "\\bfloat\\b", "\\.equals\\(", "hashCode", "toString", "\\bSystem\\.(?!arraycopy)",
            "\\bMath\\.(?!max\\(|min\\()", "\\b(Integer|Long|Short|Byte|Character|Boolean|Arrays|List)\\b",
            "\\bThread\\b", "\\bObject\\b", "\\bprotected\\b", "\\bpackage\\b", "new \\w+\\[[^\\]]*\\]\\[",
            "\\bthrow new (?!IllegalStateException|IllegalArgumentException|IndexOutOfBoundsException"
                    + "|ArithmeticException|NoSuchElementException)",
            "^import (?!java\\.util\\.NoSuchElementException;)", "[^\\x00-\\x7f]",
            "static (?!final|int|long|boolean|void|Symbol|Rule|Record|Node|class|byte)");
    private static final int LONGEST_METHOD = 60;
    private static final int MOST_CLASSES = 12;

    public static void main(String[] args) throws Exception {
        Path path = Path.of("src/main/java/BurstTrie.java");
        List<String> lines = Files.readAllLines(path);
        for (String never : NEVER) {
            Pattern pattern = Pattern.compile(never);
            for (int i = 0; i < lines.size(); i++) {
                boolean isComment = lines.get(i).strip().matches("(//|/?\\*).*");
                String found = !isComment && pattern.matcher(lines.get(i)).find() ? lines.get(i).strip() : "";
                Check.due("", () -> found, "line " + (i + 1) + ", " + never + ",");
            }
        }
        Check.due(true, () -> longestMethod(lines) <= LONGEST_METHOD, "methods stay short");
        Check.due(true, () -> lines.stream().filter(line -> line.matches(" *(public|private).* (class|enum) .*"))
                .count() <= MOST_CLASSES, "few classes");
        Check.finish();
    }

    private static int longestMethod(List<String> lines) {
        Pattern header = Pattern.compile("^( +)(?!.*\\b(class|enum|new|return)\\b)\\w.*\\(.*$");
        int longest = 0;
        for (int i = 0; i < lines.size(); i++) {
            Matcher matcher = header.matcher(lines.get(i));
            if (matcher.matches()) {
                int end = i;
                while (end < lines.size() && !lines.get(end).equals(matcher.group(1) + "}")) {
                    end++;
                }
                if (lines.get(i).endsWith("{")) {
                    longest = Math.max(longest, end - i + 1);
                }
            }
        }
        return longest;
    }
}
