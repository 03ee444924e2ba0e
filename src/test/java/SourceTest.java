import java.util.ArrayList;
import java.util.Arrays;
import java.util.List;
import java.util.regex.Matcher;
import java.util.regex.Pattern;

/** What a reader of the text alone can see of LANGUAGE.md. */
public final class SourceTest {
    private static final Check c = new Check();
    private static final String[] RULED_OUT = {"\\bthrow\\b", "\\bthrows\\b", "\\btry\\b", "\\bcatch\\b", "\\bsynchronized\\b",
        "\\bassert\\b", "->", "::", "Exact\\b", "\\bvar\\b", "\\bpackage\\b", "\\bprotected\\b", "\\bvolatile\\b", "\\btransient\\b",
        "\\bnative\\b", "\\bSystem\\.(?!arraycopy\\b)", "\\bThread\\b", "\\bObject\\b", "\\bhashCode\\b", "\\btoString\\b",
        "\\bdouble\\b", "\\bfloat\\b", "\\bstatic\\s*\\{"};
    private static final int MOST_METHOD_LINES = 60;
    private static final int MOST_PARAMETERS = 7;
    private static final int MOST_CLASSES = 12;
    private static final int LEAST_METHODS = 32;

    public static void main(String[] args) {
        String text = Check.textOf(Check.PROGRAM);
        for (int i = 0; i < text.length(); i++) {
            if (text.charAt(i) > 126) c.that("a plain sign at " + i, false);
        }
        String code = text.replaceAll("(?s)/\\*.*?\\*/", "").replaceAll("//[^\n]*", "").replaceAll("\"[^\"\n]*\"", "\"\"");
        for (String word : RULED_OUT) c.that("without " + word, !Pattern.compile(word).matcher(code).find());
        Matcher imports = Pattern.compile("import ([^;]*);").matcher(code);
        while (imports.find()) {
            c.that("import " + imports.group(1), List.of("java.util.Arrays", "java.util.ArrayList", "java.util.List").contains(imports.group(1)));
        }
        int classes = code.split("\\bclass\\b", -1).length - 1;
        c.that("classes " + classes, classes <= MOST_CLASSES);
        for (String[] method : methods(code.split("\n"))) look(method);
        c.end();
    }

    private static void look(String[] method) {
        String head = method[0].trim();
        c.that("method of " + method.length + " lines: " + head, method.length <= MOST_METHOD_LINES);
        c.that("few parameters: " + head, head.split(",").length <= MOST_PARAMETERS);
        boolean isConstructor = head.matches("(public )?[A-Z]\\w*\\(.*");
        // The rows are made once: an object that each call makes would fill the room that all calls share.
        c.that("makes no object: " + head, isConstructor || !Pattern.compile("\\bnew\\b").matcher(String.join("\n", method)).find());
    }

    /** A method begins at a line that ends in ") {" outside all methods, and ends where its braces do. */
    private static List<String[]> methods(String[] lines) {
        List<String[]> found = new ArrayList<>();
        for (int i = 0; i < lines.length; i++) {
            if (!lines[i].matches("( {4}| {8})[A-Za-z].*\\) \\{") || lines[i].matches(" *(if|for|while|switch)\\b.*")) continue;
            String indent = lines[i].replaceAll("\\S.*", "");
            int end = i;
            while (end < lines.length && !lines[end].equals(indent + "}")) end++;
            found.add(Arrays.copyOfRange(lines, i, Math.min(end + 1, lines.length)));
        }
        c.that("methods: " + found.size(), found.size() > LEAST_METHODS);
        return found;
    }
}
