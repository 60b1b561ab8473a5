import java.io.IOException;
import java.lang.reflect.Constructor;
import java.lang.reflect.Field;
import java.lang.reflect.Method;
import java.lang.reflect.Modifier;
import java.nio.file.Files;
import java.nio.file.Path;
import java.util.ArrayList;
import java.util.Arrays;
import java.util.List;
import java.util.regex.Matcher;
import java.util.regex.Pattern;

/**
 * What of LANGUAGE.md can be seen in the source's words and in the compiled classes; .ci/run starts it in
 * the project's folder.
 */
public final class LanguageTest {
    private static final Path SOURCE = Path.of("src/main/java/RaisedTableaux.java");

    private static int wrong = 0;

    private static void never(String code, String rule, String pattern) {
        Matcher found = Pattern.compile(pattern).matcher(code);
        while (found.find()) {
            wrong++;
            System.out.println(rule + ": '" + found.group() + "' in the source");
        }
    }

    private static String withoutComments(String source) {
        return source.replaceAll("(?s)/\\*.*?\\*/", "").replaceAll("//[^\n]*", "");
    }

    private static void due(boolean holds, String breach) {
        if (!holds) {
            wrong++;
            System.out.println(breach);
        }
    }

    /** The calls of the library are those that rule 4 lists, as far as the class needs them. */
    private static void library(String code) {
        List<String> allowed = List.of("Arrays.fill", "System.arraycopy", "Math.max", "Math.min", "Math.abs",
                "Long.bitCount", "Long.numberOfTrailingZeros");
        Matcher call = Pattern.compile("\\b(?:Arrays|System|Math|Long|Integer|String|List)\\.\\w+").matcher(code);
        while (call.find()) {
            due(allowed.contains(call.group()), "rule 4: " + call.group());
        }
        never(code, "rule 4", "\\b(ArrayList|StringBuilder|Iterator|Object|Integer|Double|Character)\\b");
    }

    /** A call makes nothing: what is made stands in a field's declaration or in a constructor. */
    private static void madeOnce(String code) {
        Pattern head = Pattern.compile("^(?: {4}| {8})(?!if|for|while|switch|do\\b|else)((?:public |private |static )*"
                + "(?:[\\w\\[\\]]+ )?)(\\w+)\\(.*\\) \\{$");
        boolean inConstructor = false;
        for (String line : code.lines().toList()) {
            Matcher method = head.matcher(line);
            if (method.matches()) {
                inConstructor = method.group(1).isEmpty() || method.group(1).equals("public ");
            }
            boolean makes = line.matches(".*\\bnew\\b.*|.*\\.clone\\(.*");
            due(!makes || inConstructor || line.contains(" final "), "rule 12: made in a call:" + line);
        }
    }

    /** Rules 7 and 11, of one class. */
    private static void members(Class<?> one, String code) {
        int fields = 0;
        for (Field field : one.getDeclaredFields()) {
            int modifiers = field.getModifiers();
            if (!Modifier.isStatic(modifiers)) {
                fields++;
            }
            boolean mayBeNull = !field.getType().isPrimitive() && !Modifier.isFinal(modifiers);
            due(!mayBeNull || code.contains(field.getName() + " == null"),
                    "rule 7: " + field + " is never held against null");
        }
        due(fields <= 20, "rule 11: " + one + " has " + fields + " fields");
        for (Method method : one.getDeclaredMethods()) {
            due(method.getParameterCount() <= 7, "rule 11: the parameters of " + method);
        }
        for (Constructor<?> constructor : one.getDeclaredConstructors()) {
            due(constructor.getParameterCount() <= 7, "rule 11: the parameters of " + constructor);
        }
    }

    private static int longestMethod(String code) {
        int longest = 0;
        Matcher method = Pattern.compile("(?ms)^( +)(?:(?:public|private|static) )*\\w+(?:\\[\\])? ?\\w*\\("
                + "[^;{]*\\) \\{$(.*?)^\\1\\}$").matcher(code);
        while (method.find()) {
            longest = Math.max(longest, (int) method.group().lines().count());
        }
        return longest;
    }

    public static void main(String[] args) throws IOException {
        String code = withoutComments(Files.readString(SOURCE));
        never(code, "rule 6", "\\b(throw|throws|try|catch|finally|synchronized|assert)\\b");
        never(code, "rule 2", "->|::|\\bnew \\w+\\([^)]*\\) *\\{");
        never(code, "rule 4", "\\b\\w+Exact\\b|\\bimport (?!java\\.util\\.(Arrays|ArrayList|List|Iterator);).*");
        never(code, "rule 5", "\\bstatic \\{|\\bstatic (?!final\\b)(?!class\\b)[\\w\\[\\]]+ \\w+ *[=;]");
        never(code, "rule 6", "\\.(hashCode|toString|equals)\\(");
        never(code, "rule 13", "\\b(System\\.(?!arraycopy\\b)\\w+|Math\\.random|Thread|Random)\\b");
        never(code, "rule 3", "[^\\x00-\\x7f]");
        due(longestMethod(code) <= 60 && longestMethod(code) > 0,
                "rule 11: a method has " + longestMethod(code) + " lines");
        library(code);
        madeOnce(code);
        List<Class<?>> classes = new ArrayList<>(List.of(RaisedTableaux.class));
        classes.addAll(Arrays.asList(RaisedTableaux.class.getDeclaredClasses()));
        due(classes.size() <= 12, "rule 11: " + classes.size() + " classes");
        for (Class<?> one : classes) {
            members(one, code);
        }
        System.out.println(wrong == 0 ? "the source keeps to the rules that are seen" : wrong + " breaches");
        if (wrong != 0) {
            System.exit(1);
        }
    }
}
