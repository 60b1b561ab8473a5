import java.io.IOException;
import java.nio.file.Files;
import java.nio.file.Path;
import java.util.regex.Matcher;
import java.util.regex.Pattern;

/** What of LANGUAGE.md can be seen in the source's words; .ci/run starts it in the project's folder. */
public final class LanguageTest {
    private static final Path SOURCE = Path.of("src/main/java/RaisedTableaux.java");

    private static int wrong = 0;

    private static void never(String code, String rule, String pattern) {
        Matcher found = Pattern.compile(pattern).matcher(code);
        while (found.find()) {
            wrong++;
            System.out.println(rule + ": '" + found.group() + "' in the source");
        }
    }

    private static String withoutComments(String source) {
        return source.replaceAll("(?s)/\\*.*?\\*/", "").replaceAll("//[^\n]*", "");
    }

    private static int longestMethod(String code) {
        int longest = 0;
        Matcher method = Pattern.compile("(?ms)^( +)(?:(?:public|private|static) )*\\w+(?:\\[\\])? ?\\w*\\("
                + "[^;{]*\\) \\{$(.*?)^\\1\\}$").matcher(code);
        while (method.find()) {
            longest = Math.max(longest, (int) method.group().lines().count());
        }
        return longest;
    }

    public static void main(String[] args) throws IOException {
        String code = withoutComments(Files.readString(SOURCE));
        never(code, "rule 6", "\\b(throw|throws|try|catch|finally|synchronized|assert)\\b");
        never(code, "rule 2", "->|::|\\bnew \\w+\\([^)]*\\) *\\{");
        never(code, "rule 4", "\\b\\w+Exact\\b|\\bimport (?!java\\.util\\.(Arrays|ArrayList|List|Iterator);).*");
        never(code, "rule 5", "\\bstatic \\{|\\bstatic (?!final\\b)(?!class\\b)[\\w\\[\\]]+ \\w+ *[=;]");
        never(code, "rule 6", "\\.(hashCode|toString|equals)\\(");
        never(code, "rule 13", "\\b(System\\.(?!arraycopy\\b)\\w+|Math\\.random|Thread|Random)\\b");
        never(code, "rule 3", "[^\\x00-\\x7f]");
        if (longestMethod(code) > 60 || longestMethod(code) == 0) {
            wrong++;
            System.out.println("rule 11: a method has " + longestMethod(code) + " lines");
        }
        System.out.println(wrong == 0 ? "the source keeps to the rules that are seen" : wrong + " breaches");
        if (wrong != 0) {
            System.exit(1);
        }
    }
}
