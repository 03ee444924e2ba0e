import java.lang.reflect.Member;
import java.lang.reflect.Method;
import java.lang.reflect.Modifier;
import java.util.ArrayList;
import java.util.List;
import java.util.Set;
import java.util.TreeSet;
import java.util.regex.Matcher;
import java.util.regex.Pattern;

/** The public face: the document's members, as it writes them and in its order, and no others. */
public final class FaceTest {
    private static final Check c = new Check();
    private static final String PROMISED = Check.wordsOf(Check.DOCUMENT);
    private static final String WRITTEN = Check.wordsOf(Check.PROGRAM);
    private static final String FACE = PROMISED.substring(PROMISED.indexOf("```java "), PROMISED.indexOf("## Terms"));
    private static final int CALLS = 31;

    public static void main(String[] args) {
        List<String> promised = all("public int (\\w+\\([^)]*\\));", FACE);
        c.due("calls of the face", promised.size(), CALLS);
        c.that("the calls as the document writes them", promised.equals(all("public int (\\w+\\([^)]*\\)) \\{", WRITTEN)));
        constants();
        members(promised);
        sections();
        c.end();
    }

    private static void constants() {
        List<String> promised = all("(public static final int [^;]*;)", FACE);
        c.due("rows of constants", promised.size(), 1);
        c.that("the constants as the document writes them", promised.equals(all("(public static final [^;]*;)", WRITTEN)));
        c.due("BAD", ChildPay.BAD, -2000000001);
        c.due("NO", ChildPay.NO, -2000000002);
        c.due("FULL", ChildPay.FULL, -2000000003);
        c.due("NONE", ChildPay.NONE, -2000000005);
        c.due("NOTHING", ChildPay.NOTHING, -2000000011);
        c.due("INDEX", ChildPay.INDEX, -2000000013);
        c.due("SIZE", ChildPay.SIZE, -2000000014);
    }

    private static void members(List<String> promised) {
        c.that("public and final", Modifier.isPublic(ChildPay.class.getModifiers()) && Modifier.isFinal(ChildPay.class.getModifiers()));
        c.due("constructors", ChildPay.class.getDeclaredConstructors().length, 1);
        c.due("public constructors", ChildPay.class.getConstructors().length, 1);
        c.due("arguments of the constructor", ChildPay.class.getConstructors()[0].getParameterCount(), 0);
        Set<String> names = new TreeSet<>();
        for (String call : promised) names.add(nameOf(call));
        int open = 0;
        for (Method m : ChildPay.class.getDeclaredMethods()) {
            c.that("synthetic " + m, !m.isSynthetic());
            c.that("a promised name is public, no other is: " + m, isHidden(m) != names.contains(m.getName()));
            if (isHidden(m)) continue;
            open++;
            c.that("public int " + m, m.getReturnType() == int.class && Modifier.isPublic(m.getModifiers()) && !Modifier.isStatic(m.getModifiers()));
            for (Class<?> p : m.getParameterTypes()) c.that("int alone " + m, p == int.class);
        }
        c.due("public methods", open, CALLS);
        for (Member f : ChildPay.class.getDeclaredFields()) {
            c.that("no open field but the constants: " + f, isHidden(f) || FACE.contains(" " + f.getName() + " = -"));
        }
        for (Class<?> inside : ChildPay.class.getDeclaredClasses()) {
            int how = inside.getModifiers();
            c.that("static, not public: " + inside, Modifier.isStatic(how) && !Modifier.isPublic(how) && !Modifier.isProtected(how));
        }
    }

    /** "Ahead of the calls .. the interface says: ---- x." */
    private static void sections() {
        Matcher section = Pattern.compile("Ahead of the calls ([^.]*) the interface says: (---- \\w+)\\.").matcher(PROMISED);
        int calls = 0;
        while (section.find()) {
            List<String> promised = all("`(\\w+)`", section.group(1));
            List<String> written = new ArrayList<>();
            for (String call : all("public int (\\w+\\([^)]*\\)) \\{", behind(section.group(2)))) written.add(nameOf(call));
            c.that(section.group(2) + " " + promised + " is " + written, promised.equals(written));
            calls += promised.size();
        }
        c.due("calls with a section", calls, CALLS);
    }

    /** The program from a section's line up to the next one. */
    private static String behind(String title) {
        int start = WRITTEN.indexOf("// " + title + " ");
        if (start < 0) return "";
        int end = WRITTEN.indexOf("// ----", start + 1);
        return end < 0 ? WRITTEN.substring(start) : WRITTEN.substring(start, end);
    }

    private static List<String> all(String pattern, String text) {
        List<String> found = new ArrayList<>();
        Matcher m = Pattern.compile(pattern).matcher(text);
        while (m.find()) found.add(m.group(1));
        return found;
    }

    private static String nameOf(String call) {
        return call.substring(0, call.indexOf('('));
    }

    private static boolean isHidden(Member m) {
        return Modifier.isPrivate(m.getModifiers());
    }
}
