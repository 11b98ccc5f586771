import java.io.IOException;
import java.nio.file.Files;
import java.nio.file.Path;
import java.util.Set;
import java.util.regex.Matcher;
import java.util.regex.Pattern;

/** What a look at the program's text can tell of ../shared/LANGUAGE.md; run from the project's root. */
final class LanguageTest {
    private static final String[] FORBIDDEN = {
        "->", "::", "\\bfinally\\b", "\\bsynchronized\\b", "\\bassert\\b", "\\btry\\b", "\\bcatch\\b",
        "\\bSystem\\.(?!arraycopy)", "\\bThread\\b", "\\bRandom\\b", "\\w+Exact\\b", "\\brecord\\b",
        "\\bpackage\\b", "\\bequals\\(", "\\bhashCode\\b", "\\btoString\\b", "\\bwhile\\s*\\(\\s*true",
        "\\bprotected\\b", "\\bvolatile\\b", "\\bnative\\b", "\\bvar\\b",
    };
    private static final int LONGEST_METHOD = 60;
    private static final int MOST_PARAMETERS = 7;

    public static void main(String[] args) throws IOException {
        String text = Files.readString(Path.of("src/main/java/Glosspair.java"));
        String code = withoutComments(text);
        Check.isTrue("signs are 1 to 127", text.chars().allMatch(sign -> sign >= 1 && sign <= 127));
        for (String one : FORBIDDEN) {
            Check.isTrue("no " + one, !Pattern.compile(one).matcher(code).find());
        }
        importsAreAllowed(code);
        libraryCallsAreAllowed(code);
        exceptionsAreThoseOfTheDocument(code);
        methodsAreShort(code);
        Check.end();
    }

    private static String withoutComments(String text) {
        return text.replaceAll("(?s)/\\*.*?\\*/", "").replaceAll("//[^\n]*", "");
    }

    private static void importsAreAllowed(String code) {
        Matcher imports = Pattern.compile("import ([^;]+);").matcher(code);
        while (imports.find()) {
            Check.isTrue("import " + imports.group(1), imports.group(1).equals("java.util.Arrays"));
        }
    }

    /** Rule 4 allows more than the program needs; what comes new must be looked up there. */
    private static void libraryCallsAreAllowed(String code) {
        Set<String> allowed = Set.of("Arrays.fill", "Integer.bitCount", "Math.abs", "Math.min");
        Matcher calls = Pattern.compile("\\b(?:Arrays|Integer|Long|List|Math|String|System)\\.\\w+").matcher(code);
        while (calls.find()) {
            boolean isImport = calls.start() > 0 && code.charAt(calls.start() - 1) == '.';
            Check.isTrue(calls.group(), isImport || allowed.contains(calls.group()));
        }
    }

    private static void exceptionsAreThoseOfTheDocument(String code) {
        Pattern due = Pattern.compile(
                "throw new (IndexOutOfBounds|IllegalArgument|IllegalState)Exception\\(\"[^\"]*\"\\);");
        Matcher throwing = Pattern.compile("\\bthrow\\b[^;]*;").matcher(code);
        while (throwing.find()) {
            Check.isTrue(throwing.group(), due.matcher(throwing.group()).matches());
        }
    }

    private static void methodsAreShort(String code) {
        Pattern head = Pattern.compile("^ {4}(?: {4})?[\\w\\[\\] ]+\\(([^)]*)\\)[^;{]*\\{", Pattern.MULTILINE);
        Matcher methods = head.matcher(code);
        int seen = 0;
        while (methods.find()) {
            seen++;
            int end = endOfBlock(code, methods.end());
            long lines = code.substring(methods.start(), end).lines().count();
            Check.isTrue(methods.group().strip() + " is short", lines <= LONGEST_METHOD);
            int parameters = methods.group(1).isBlank() ? 0 : methods.group(1).split(",").length;
            Check.isTrue(methods.group().strip() + " takes few", parameters <= MOST_PARAMETERS);
        }
        Check.isTrue("methods were seen", seen > 17);
    }

    private static int endOfBlock(String code, int start) {
        int depth = 1;
        int at = start;
        while (depth > 0 && at < code.length()) {
            depth += code.charAt(at) == '{' ? 1 : code.charAt(at) == '}' ? -1 : 0;
            at++;
        }
        return at;
    }
}
