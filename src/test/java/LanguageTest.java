import java.nio.file.Files;
import java.nio.file.Path;
import java.util.List;
import java.util.regex.Matcher;
import java.util.regex.Pattern;

/** Those rules of LANGUAGE.md that can be seen from the text; run from the project's folder, as .ci/run does. */
public final class LanguageTest {
    /** This program has no need of exceptions, lists or texts that grow: none of these words stands in it. */
    private static final String[] FORBIDDEN = {
        "\\bimport\\b", "\\bpackage\\b", "\\btry\\b", "\\bcatch\\b", "\\bfinally\\b", "\\bthrows?\\b", "->", "::",
        "\\bsynchronized\\b", "\\bassert\\b", "\\bstatic \\{", "\\bdouble\\b", "\\bfloat\\b", "\\bprotected\\b",
        "\\bObject\\b", "\\bMath\\.\\w+Exact\\b", "\\bSystem\\.(?!arraycopy\\b)", "\\bvolatile\\b", "\\bnative\\b"};

    public static void main(String[] args) throws Exception {
        Due d = new Due("LanguageTest");
        String text = Files.readString(Path.of("src/main/java/YawnKeys.java"));
        String code = text.replaceAll("(?s)/\\*.*?\\*/", "").replaceAll("//[^\n]*", "").replaceAll("\"[^\"\n]*\"", "\"\"");
        for (String word : FORBIDDEN) {
            Matcher found = Pattern.compile(word).matcher(code);
            d.due("4, 6: " + word, found.find() ? 1 : 0, 0);
        }
        d.due("4: signs above 127", text.chars().filter(c -> c > 127).count(), 0);
        Matcher statics = Pattern.compile("\\bstatic (?!final\\b)[^({=;]*[=;]").matcher(code);
        d.due("5: static fields that are not final", statics.find() ? 1 : 0, 0);
        Matcher classes = Pattern.compile("\\b(class|enum|record|interface) [A-Z]").matcher(code);
        d.due("11: some twelve classes", classes.results().count() <= 12 ? 1 : 0, 1);
        lengths(d, List.of(text.split("\n")));
        d.end();
    }

    /** A method begins with a line that ends in ") {" at the depth of members, and ends with its own brace. */
    private static void lengths(Due d, List<String> lines) {
        for (int i = 0; i < lines.size(); i++) {
            Matcher head = Pattern.compile("^( {4}| {8})(\\w[\\w\\[\\] ]*\\(.*)\\) \\{$").matcher(lines.get(i));
            if (!head.find() || head.group(2).matches("(if|for|while|switch)\\b.*")) {
                continue;
            }
            int end = i;
            while (end < lines.size() && !lines.get(end).equals(head.group(1) + "}")) {
                end++;
            }
            d.due("11: short is " + head.group(2), end - i < 60 ? 1 : 0, 1);
            d.due("11: parameters of " + head.group(2), head.group(2).chars().filter(c -> c == ',').count() < 7 ? 1 : 0, 1);
        }
    }
}
