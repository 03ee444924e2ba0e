import java.io.IOException;
import java.lang.reflect.Method;
import java.lang.reflect.Modifier;
import java.net.URL;
import java.net.URLClassLoader;
import java.nio.file.Files;
import java.nio.file.Path;
import java.util.ArrayList;
import java.util.List;
import java.util.regex.Matcher;
import java.util.regex.Pattern;
import javax.tools.JavaCompiler;
import javax.tools.ToolProvider;

/** The examples of README.md: compiled as they stand, each call that shows an answer must give it. */
public final class ReadmeTest {
    private static final Check c = new Check();
    private static final Pattern BLOCK = Pattern.compile("(?s)```java\n(.*?)```");
    private static final Pattern SHOWN = Pattern.compile("(\\w[^;/]*\\));\\s*// (-?\\d+|[A-Z]+)(?::.*)?");
    private static final List<String> REFUSALS = List.of("BAD", "NO", "FULL", "NONE", "NOTHING", "INDEX", "SIZE");
    private static final int LEAST_SHOWN = 100;

    private static final StringBuilder helpers = new StringBuilder();
    private static final StringBuilder runs = new StringBuilder();
    private static final List<String> calls = new ArrayList<>();
    private static final List<String> answers = new ArrayList<>();

    public static void main(String[] args) throws Exception {
        Matcher block = BLOCK.matcher(Check.textOf("README.md"));
        while (block.find()) take(block.group(1));
        everyCallIsShown();
        compare(run("public final class Readme {\n" + helpers
            + "public static void run(java.util.List<Integer> got) {\n" + runs + "}\n}\n"));
        c.end();
    }

    private static void take(String block) {
        if (block.startsWith("static ")) {
            helpers.append(block);
            return;
        }
        runs.append("{\n");
        for (String line : block.split("\n")) {
            Matcher m = SHOWN.matcher(line);
            boolean shows = m.matches();
            c.that("an answer can be read in '" + line + "'", shows || !line.contains("//"));
            runs.append(shows ? "got.add(" + m.group(1) + ");" : line).append('\n');
            if (!shows) continue;
            calls.add(m.group(1));
            answers.add(m.group(2));
        }
        runs.append("}\n");
    }

    private static void everyCallIsShown() {
        for (Method m : ChildPay.class.getDeclaredMethods()) {
            if (!Modifier.isPublic(m.getModifiers())) continue;
            c.that("README.md shows " + m.getName(), calls.stream().anyMatch(call -> call.startsWith("pay." + m.getName() + "(")));
        }
        for (String refusal : REFUSALS) c.that("README.md shows " + refusal, answers.contains(refusal));
        c.that("calls with an answer: " + calls.size(), calls.size() >= LEAST_SHOWN);
    }

    private static void compare(List<Integer> got) throws Exception {
        c.due("answers of README.md", got.size(), calls.size());
        for (int i = 0; i < Math.min(got.size(), calls.size()); i++) {
            String answer = answers.get(i);
            int want = REFUSALS.contains(answer) ? ChildPay.class.getField(answer).getInt(null) : Integer.parseInt(answer);
            c.due("README.md, " + calls.get(i), got.get(i), want);
        }
    }

    private static List<Integer> run(String program) throws Exception {
        Path folder = Files.createTempDirectory("readme");
        Path file = folder.resolve("Readme.java");
        Files.writeString(file, program);
        JavaCompiler compiler = ToolProvider.getSystemJavaCompiler();
        boolean compiled = compiler != null && compiler.run(null, null, null, "-cp", System.getProperty("java.class.path"),
            "-d", folder.toString(), file.toString()) == 0;
        c.that("the examples of README.md compile", compiled);
        List<Integer> got = new ArrayList<>();
        if (compiled) call(folder, got);
        remove(folder);
        return got;
    }

    private static void call(Path folder, List<Integer> got) throws Exception {
        URL[] places = {folder.toUri().toURL()};
        try (URLClassLoader loader = new URLClassLoader(places, ReadmeTest.class.getClassLoader())) {
            loader.loadClass("Readme").getMethod("run", List.class).invoke(null, got);
        }
    }

    private static void remove(Path folder) throws IOException {
        for (String name : new String[] {"Readme.java", "Readme.class"}) Files.deleteIfExists(folder.resolve(name));
        Files.delete(folder);
    }
}
