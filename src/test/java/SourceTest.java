import java.nio.file.Files;
import java.nio.file.Path;
import java.util.List;
import java.util.regex.Matcher;
import java.util.regex.Pattern;

/** What a reader of the text alone can see of LANGUAGE.md. */
public final class SourceTest {
    private static final Check c = new Check();
    private static final String[] RULED_OUT = {"\\bthrow\\b", "\\bthrows\\b", "\\btry\\b", "\\bcatch\\b", "\\bsynchronized\\b",
        "\\bassert\\b", "->", "::", "Exact\\b", "\\bvar\\b", "\\bpackage\\b", "\\bprotected\\b", "\\bvolatile\\b", "\\btransient\\b",
        "\\bnative\\b", "\\bSystem\\.(?!arraycopy\\b)", "\\bThread\\b", "\\bObject\\b", "\\bhashCode\\b", "\\btoString\\b",
        "\\bdouble\\b", "\\bfloat\\b", "\\bstatic\\s*\\{"};
    private static final int MOST_METHOD_LINES = 60;
    private static final int MOST_CLASSES = 12;

    public static void main(String[] args) throws Exception {
        String text = Files.readString(Path.of("src/main/java/ChildPay.java"));
        for (int i = 0; i < text.length(); i++) {
            if (text.charAt(i) > 126) c.that("a plain sign at " + i, false);
        }
        String code = text.replaceAll("(?s)/\\*.*?\\*/", "").replaceAll("//[^\n]*", "").replaceAll("\"[^\"\n]*\"", "\"\"");
        for (String word : RULED_OUT) c.that("without " + word, !Pattern.compile(word).matcher(code).find());
        Matcher imports = Pattern.compile("import ([^;]*);").matcher(code);
        while (imports.find()) {
            c.that("import " + imports.group(1), List.of("java.util.Arrays", "java.util.ArrayList", "java.util.List").contains(imports.group(1)));
        }
        int classes = code.split("\\bclass\\b", -1).length - 1;
        c.that("classes " + classes, classes <= MOST_CLASSES);
        methodLengths(code.split("\n"));
        c.end();
    }

    /** A method begins at a line that ends in ") {" outside all methods, and ends where its braces do. */
    private static void methodLengths(String[] lines) {
        for (int i = 0; i < lines.length; i++) {
            if (!lines[i].matches("( {4}| {8})[A-Za-z].*\\) \\{") || lines[i].matches(" *(if|for|while|switch)\\b.*")) continue;
            String indent = lines[i].replaceAll("\\S.*", "");
            int end = i;
            while (end < lines.length && !lines[end].equals(indent + "}")) end++;
            c.that("method of " + (end - i + 1) + " lines: " + lines[i].trim(), end - i + 1 <= MOST_METHOD_LINES);
        }
    }
}
