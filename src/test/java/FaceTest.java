import java.lang.reflect.Member;
import java.lang.reflect.Method;
import java.lang.reflect.Modifier;
import java.util.Arrays;
import java.util.Set;
import java.util.TreeSet;

/** The public face: the document's members and no others. */
public final class FaceTest {
    private static final Check c = new Check();
    private static final String METHODS = "change/3 isOf/2 takeBack/1 told/2 known/3 school/2 nights/2 feed/3 trim/1 law/1 inForce/1 "
        + "sum/3 due/3 edge/2 line/3 marks/1 paid/2 owed/2 over/2 left/3 oldest/2 payer/2 interest/2 forgive/2 rate/1 weeks/1 "
        + "sheet/2 mark/3 copy/5 lose/1 count/1";
    private static final String CONSTANTS = "BAD FULL INDEX NO NONE NOTHING SIZE";

    public static void main(String[] args) {
        c.that("public and final", Modifier.isPublic(ChildPay.class.getModifiers()) && Modifier.isFinal(ChildPay.class.getModifiers()));
        c.due("constructors", ChildPay.class.getDeclaredConstructors().length, 1);
        c.due("public constructors", ChildPay.class.getConstructors().length, 1);
        Set<String> methods = new TreeSet<>();
        for (Method m : ChildPay.class.getDeclaredMethods()) {
            c.that("synthetic " + m, !m.isSynthetic());
            if (isHidden(m)) {
                c.that("no private method bears a public one's name: " + m, !METHODS.contains(m.getName() + "/"));
                continue;
            }
            methods.add(m.getName() + "/" + m.getParameterCount());
            c.that("public int " + m, m.getReturnType() == int.class && Modifier.isPublic(m.getModifiers()) && !Modifier.isStatic(m.getModifiers()));
            for (Class<?> p : m.getParameterTypes()) c.that("int alone " + m, p == int.class);
        }
        c.that("methods " + methods, methods.equals(new TreeSet<>(Arrays.asList(METHODS.split(" ")))));
        Set<String> constants = new TreeSet<>();
        Arrays.stream(ChildPay.class.getDeclaredFields()).filter(f -> !isHidden(f)).forEach(f -> constants.add(f.getName()));
        c.that("constants " + constants, constants.equals(new TreeSet<>(Arrays.asList(CONSTANTS.split(" ")))));
        c.due("BAD", ChildPay.BAD, -2000000001);
        c.due("NO", ChildPay.NO, -2000000002);
        c.due("FULL", ChildPay.FULL, -2000000003);
        c.due("NONE", ChildPay.NONE, -2000000005);
        c.due("NOTHING", ChildPay.NOTHING, -2000000011);
        c.due("INDEX", ChildPay.INDEX, -2000000013);
        c.due("SIZE", ChildPay.SIZE, -2000000014);
        c.end();
    }

    private static boolean isHidden(Member m) {
        return Modifier.isPrivate(m.getModifiers());
    }
}
