import java.lang.reflect.InvocationTargetException;
import java.lang.reflect.Method;
import java.lang.reflect.Modifier;
import java.util.Arrays;
import java.util.Comparator;

/** Every call with every mix of arguments at and beyond the document's limits, on the program and on the model. */
public final class GridTest {
    private static final Check c = new Check();
    private static final int CALLS_OF_ONE_OBJECT = 512;
    private static final int[] EDGES = {Integer.MIN_VALUE, Check.NONE, -1, 0, 1, 2, 3, 4, 5, 6, 7, 8, 9, 10, 12, 59, 60, 61, 79, 80, 99, 100,
        118, 119, 120, 121, 500, 501, 1023, 1024, 99999, 100000, 100001, 1000000, 1000001, Integer.MAX_VALUE};
    private static final int[] FEW = {Integer.MIN_VALUE, -1, 0, 1, 2, 3, 4, 119, 120, 121, Integer.MAX_VALUE};

    private final Method call;
    private final int start;
    private ChildPay program;
    private Model model;
    private int used;

    private GridTest(Method call, int start) {
        this.call = call;
        this.start = start;
    }

    public static void main(String[] args) throws Exception {
        Method[] calls = Arrays.stream(ChildPay.class.getDeclaredMethods()).filter(m -> Modifier.isPublic(m.getModifiers()))
            .sorted(Comparator.comparing(Method::getName)).toArray(Method[]::new);
        for (Method m : calls) {
            for (int start = 0; start < 3; start++) new GridTest(m, start).go();
        }
        c.end();
    }

    private void go() throws Exception {
        begin();
        int[] values = call.getParameterCount() > 3 ? FEW : EDGES;
        int[] at = new int[call.getParameterCount()];
        boolean more = true;
        while (more) {
            if (used >= CALLS_OF_ONE_OBJECT) begin();
            ask(call, Arrays.stream(at).map(i -> values[i]).toArray());
            more = false;
            for (int j = 0; j < at.length && !more; j++) {
                at[j] = (at[j] + 1) % values.length;
                more = at[j] > 0;
            }
        }
    }

    /** A new object; one in the midst of its WEEKS; one at its end. */
    private void begin() throws Exception {
        program = new ChildPay();
        model = new Model();
        used = 0;
        if (start == 0) return;
        ask("feed", 0x74616B65, 0x20312020, 0x6E696768);
        ask("feed", 0x74203920, 0x6C656173, 0x74203520);
        ask("law", 0);
        ask("change", 1, 100000, 0);
        ask("change", 2, 1, 0);
        ask("change", 3, 77777, 3);
        ask("weeks", 60);
        ask("change", 2, 1, 4);
        ask("takeBack", 2);
        ask("sheet", 0, start == 1 ? 3 : 120);
        ask("sheet", 1, 4);
        for (int place = 0; place < 3; place++) ask("mark", 0, place, place + 1);
        ask("mark", 1, 3, 7);
        ask("line", 2, 5000, 0);
        ask("line", 0, 99, 0);
        ask("rate", 500);
        ask("feed", 0x74616B65, 0x20352020, 0x20202020);
        if (start == 2) ask("weeks", 59);
    }

    private void ask(String name, int... a) throws Exception {
        Class<?>[] ints = new Class<?>[a.length];
        Arrays.fill(ints, int.class);
        ask(ChildPay.class.getMethod(name, ints), a);
    }

    private void ask(Method m, int[] a) throws Exception {
        used++;
        String text = "start " + start + ": " + m.getName() + Arrays.toString(a);
        try {
            c.due(text, (Integer) m.invoke(program, Arrays.stream(a).boxed().toArray()), model.ask(m.getName(), a));
        } catch (InvocationTargetException e) {
            c.that(text + " threw " + e.getCause(), false);
        }
    }
}
