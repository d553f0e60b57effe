import java.nio.file.Files;
import java.nio.file.Path;
import java.util.regex.Matcher;
import java.util.regex.Pattern;

/** The rules of LANGUAGE.md that can be seen from the program's text alone. */
public final class LanguageTest {
    private static final Path PROGRAM = Path.of("src", "main", "java", "PastryBench.java");
    private static final String[] FORBIDDEN = {
        "\\bpackage\\b", "\\bimport\\b", "->", "::", "\\bfinally\\b", "\\bsynchronized\\b", "\\bassert\\b", "\\bvolatile\\b",
        "\\bnative\\b", "\\btransient\\b", "\\bObject\\b", "Exact\\b", "\\bSystem\\.(?!arraycopy)", "\\bThread\\b",
        "\\bcatch\\b", "\\btry\\b", "\\byield\\b", "\\bpublic\\s+static\\b", "\\bprotected\\b", "\\bstatic\\s*\\{", "\\bNaN\\b",
        "\\bequals\\b", "\\bhashCode\\b", "\\btoString\\b", "\\bstrictfp\\b", "@", "\\bstatic\\s+(?!final|class)\\w+\\s+\\w+\\s*[=;]",
        "\\bMath\\.(?!min|max|abs)", "\\[\\]\\s*\\[\\]\\s*\\[\\]"
    };

    public static void main(String[] args) throws Exception {
        String source = Files.readString(PROGRAM);
        for (int i = 0; i < source.length(); i++) {
            if (source.charAt(i) > 126) {
                Check.same("sign " + i, source.charAt(i), "a sign up to 126");
            }
        }
        String code = source.replaceAll("(?s)/\\*.*?\\*/", "").replaceAll("//[^\n]*", "").replaceAll("\"[^\"\n]*\"", "\"\"");
        for (String forbidden : FORBIDDEN) {
            Matcher matcher = Pattern.compile(forbidden).matcher(code);
            Check.same(forbidden, matcher.find() ? matcher.group() : "not there", "not there");
        }
        Matcher thrown = Pattern.compile("throw\\s+([^(]*)").matcher(code);
        while (thrown.find()) {
            Check.same(thrown.group(), thrown.group(1).matches(
                    "new (IllegalState|IllegalArgument|IndexOutOfBounds)Exception"), true);
        }
        Check.same("at most twelve classes", Pattern.compile("\\b(class|enum|record|interface)\\s").matcher(code).results().count() <= 12, true);
        Check.finish("LanguageTest");
    }
}
