import java.io.IOException;
import java.nio.file.Files;
import java.nio.file.Path;
import java.util.List;
import java.util.Set;
import java.util.regex.Matcher;
import java.util.regex.Pattern;

/** The rules of ../shared/LANGUAGE.md that can be seen in the text of the program. Run it in the project's folder. */
public final class SourceTest {
    private static final String PROGRAM = "src/main/java/ForgivenWork.java";
    private static final int LONGEST_METHOD = 60;
    private static final int MOST_CLASSES = 12;
    private static final String[] FORBIDDEN = {
        "->", "::", "\\bfinally\\b", "\\bcatch\\b", "\\btry\\b", "\\bsynchronized\\b", "\\bassert\\b", "\\bpackage\\b",
        "\\bprotected\\b", "\\bnative\\b", "\\bvolatile\\b", "\\binstanceof\\b", "\\bstatic\\s*\\{", "\\bsuper\\b",
        "\\bextends\\b", "\\bObject\\b", "\\bhashCode\\b", "\\bequals\\b", "\\btoString\\b", "\\bSystem\\.(?!arraycopy\\b)",
        "\\bThread\\b", "\\w+Exact\\b", "\"\\s*\\+", "\\+\\s*\"", "\\bfloat\\b", "\\bdouble\\b",
    };
    private static final Set<String> LIBRARY = Set.of("Arrays.copyOf", "Math.max", "Math.min", "System.arraycopy");
    private static final Set<String> THROWN =
        Set.of("IllegalStateException", "IllegalArgumentException", "IndexOutOfBoundsException");

    private static int wrong = 0;

    public static void main(String[] args) throws IOException {
        String source = Files.readString(Path.of(PROGRAM));
        String code = source.replaceAll("(?s)/\\*.*?\\*/", "").replaceAll("//[^\n]*", "");
        for (String pattern : FORBIDDEN) {
            Matcher found = Pattern.compile(pattern).matcher(code);
            check(!found.find(), "the code has " + pattern);
        }
        check(source.chars().allMatch(sign -> sign > 0 && sign < 127), "a sign is not 1 to 126");
        imports(code);
        library(code);
        exceptions(code);
        methods(code);
        System.out.println(wrong == 0 ? "SourceTest: the rules are kept" : "SourceTest: " + wrong + " wrong");
        if (wrong != 0) {
            System.exit(1);
        }
    }

    private static void check(boolean holds, String what) {
        if (!holds) {
            wrong++;
            System.out.println(what);
        }
    }

    private static List<String> all(String code, String pattern) {
        return Pattern.compile(pattern).matcher(code).results().map(found -> found.group(1)).toList();
    }

    private static void imports(String code) {
        check(all(code, "\\bimport\\s+([^;]+);").equals(List.of("java.util.Arrays")), "another import than Arrays");
    }

    private static void library(String code) {
        for (String call : all(code, "\\b((?:Arrays|Math|System|Integer|Long|List|String|Character)\\.\\w+)")) {
            check(call.equals("Arrays") || LIBRARY.contains(call), "a call of the library: " + call);
        }
    }

    private static void exceptions(String code) {
        int throwing = all(code, "\\b(throw)\\b").size();
        List<String> thrown = all(code, "\\bthrow new (\\w+)\\(\"[^\"]+\"\\);");
        check(throwing == thrown.size() && THROWN.containsAll(thrown), "a throw of another form");
    }

    private static void methods(String code) {
        check(all(code, "\\b(class)\\b").size() <= MOST_CLASSES, "too many classes");
        for (String method : all(code, "(?s)\n( {4}(?: {4})?(?! )[^\n;=]*\\([^;=]*?\\{\n.*?\n {4}(?: {4})?\\}\n)")) {
            check(method.split("\n").length <= LONGEST_METHOD, "too long: " + method.split("\n")[0]);
        }
    }
}
