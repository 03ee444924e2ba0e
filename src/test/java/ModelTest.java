import java.lang.reflect.InvocationTargetException;
import java.lang.reflect.Method;
import java.util.Arrays;
import java.util.Comparator;
import java.util.Random;

/** Long runs of calls, the same each time, on the program and on the model; and none may throw. */
public final class ModelTest {
    private static final Check c = new Check();
    private static final int RUNS = 400;
    private static final int CALLS = 512;
    private static final String[] WORDS = {"take", "over", "take", "night", "other", "least", "most"};
    private static final int[] TOPS = {60, 100000, 60, 14, 20, 100000, 100000};

    private final Random dice;
    private final ChildPay program = new ChildPay();
    private final Model model = new Model();
    private final int run;
    private int now;

    private ModelTest(int run) {
        this.run = run;
        this.dice = new Random(run);
    }

    public static void main(String[] args) throws Exception {
        Method[] calls = Arrays.stream(ChildPay.class.getDeclaredMethods())
            .filter(m -> java.lang.reflect.Modifier.isPublic(m.getModifiers()))
            .sorted(Comparator.comparing(Method::getName)).toArray(Method[]::new);
        for (int run = 0; run < RUNS; run++) new ModelTest(run).go(calls);
        c.end();
    }

    private void go(Method[] calls) throws Exception {
        begin();
        // Some runs keep to arguments that fit, so that they come far; others are wild.
        int wild = run % 4 == 0 ? 30 : run % 4 == 1 ? 0 : 3;
        for (int i = 0; i < CALLS; i++) {
            if (dice.nextInt(25) == 0) tellLaw();
            Method m = calls[dice.nextInt(calls.length)];
            if ((m.getName().equals("lose") || m.getName().equals("sheet")) && dice.nextInt(3) > 0) continue;
            int[] a = new int[m.getParameterCount()];
            for (int j = 0; j < a.length; j++) a[j] = dice.nextInt(100) < wild ? far() : fitting(m.getName(), j, a);
            ask(m, a);
        }
    }

    /** So that most runs have something to owe. */
    private void begin() throws Exception {
        if (run % 3 == 0) return;
        tellLaw();
        ask("change", 1, 1 + dice.nextInt(run % 2 == 0 ? 100000 : 3000), 0);
        ask("change", 2, 1, 0);
        ask("rate", dice.nextInt(501));
        ask("sheet", 0, 120);
        ask("sheet", 1, 120);
    }

    private void ask(String name, int... a) throws Exception {
        Class<?>[] ints = new Class<?>[a.length];
        Arrays.fill(ints, int.class);
        ask(ChildPay.class.getMethod(name, ints), a);
    }

    private void ask(Method m, int[] a) throws Exception {
        String call = "run " + run + ": " + m.getName() + Arrays.toString(a);
        try {
            c.due(call, (Integer) m.invoke(program, Arrays.stream(a).boxed().toArray()), model.ask(m.getName(), a));
        } catch (InvocationTargetException e) {
            c.that(call + " threw " + e.getCause(), false);
        }
        now = model.ask("count", new int[] {4});
    }

    private int far() {
        int[] some = {-1, -2, 8, 10, 61, 119, 120, 121, 500, 1024, 100001, 1000001, Check.NONE, Integer.MIN_VALUE, Integer.MAX_VALUE,
            Integer.MIN_VALUE + 1, Integer.MAX_VALUE - 1, dice.nextInt()};
        return some[dice.nextInt(some.length)];
    }

    private int fitting(String name, int j, int[] a) {
        switch (name) {
            case "change": return j == 0 ? dice.nextInt(4) : j == 2 ? nearWeek() : value(a[0]);
            case "isOf": return j == 0 ? dice.nextInt(30) : dice.nextInt(4);
            case "takeBack": return dice.nextInt(60);
            case "told": return j == 0 ? dice.nextInt(30) : dice.nextInt(5);
            case "known": return j == 0 ? past() : j == 1 ? nearWeek() : dice.nextInt(3);
            case "school": return j == 0 ? nearWeek() : dice.nextInt(3) == 0 ? Check.NONE : dice.nextInt(8);
            case "nights": return j == 0 ? nearWeek() : dice.nextInt(3);
            case "feed": return 0x20202020;
            case "trim": return dice.nextInt(20);
            case "law": return dice.nextInt(120);
            case "inForce": return nearWeek();
            case "sum": return j == 0 ? nearWeek() : j == 1 ? dice.nextInt(8) : past();
            case "due":
            case "left": return j == 0 ? past() : j == 1 ? dice.nextInt(2) : past();
            case "edge": return j == 0 ? nearWeek() : dice.nextInt(7);
            case "line": return j == 0 ? past() : j == 1 ? 1 + dice.nextInt(dice.nextInt(4) == 0 ? 1000000 : 5000) : dice.nextInt(10);
            case "marks": return dice.nextInt(1024);
            case "paid":
            case "payer": return j == 0 ? past() : dice.nextInt(2);
            case "owed":
            case "over":
            case "oldest":
            case "interest": return j == 0 ? dice.nextInt(2) : past();
            case "forgive": return j == 0 ? nearWeek() : dice.nextInt(2);
            case "rate": return dice.nextInt(501);
            case "weeks": return 1 + dice.nextInt(dice.nextInt(5) == 0 ? 30 : 6);
            case "sheet": return j == 0 ? dice.nextInt(2) : dice.nextInt(121);
            case "mark": return j == 0 ? dice.nextInt(2) : j == 1 ? nearWeek() : dice.nextInt(10) - 1;
            case "copy": return j % 2 == 0 && j < 4 ? dice.nextInt(2) : dice.nextInt(60);
            case "lose": return dice.nextInt(2);
            default: return dice.nextInt(8);
        }
    }

    private int value(int kind) {
        if (kind == 0) return dice.nextInt(6);
        if (kind == 2) return dice.nextInt(3) == 0 ? -1 : 1;
        return dice.nextInt(dice.nextInt(3) == 0 ? 100001 : 4000);
    }

    private int past() {
        return dice.nextInt(3) == 0 ? now : dice.nextInt(now + 1);
    }

    private int nearWeek() {
        return dice.nextInt(4) == 0 ? dice.nextInt(120) : dice.nextInt(Math.min(120, now + 3));
    }

    private void tellLaw() throws Exception {
        ask("trim", 0);
        StringBuilder text = new StringBuilder(blanks(0));
        boolean over = dice.nextBoolean();
        for (int i = 0; i < WORDS.length; i++) {
            boolean in = i == 0 || (i < 3 ? over : dice.nextInt(5) < 3);
            if (dice.nextInt(60) == 0) in = !in;
            if (!in) continue;
            int top = i > 4 && dice.nextBoolean() ? 1000 : TOPS[i];
            int value = dice.nextInt(40) == 0 ? top + dice.nextInt(2) : dice.nextInt(top + 1);
            text.append(dice.nextInt(60) == 0 ? "tak" : WORDS[i]).append(blanks(1)).append(value).append(blanks(1));
        }
        if (dice.nextInt(12) == 0) text.setCharAt(dice.nextInt(text.length()), (char) dice.nextInt(256));
        if (dice.nextInt(12) == 0) text.setLength(dice.nextInt(text.length()));
        if (text.length() > 72) text.setLength(72);
        int size = text.length();
        while (text.length() % 12 != 0) text.append('x');
        for (int i = 0; i < text.length(); i += 12) ask("feed", four(text, i), four(text, i + 4), four(text, i + 8));
        ask("trim", size);
        ask("law", dice.nextInt(3) == 0 ? 0 : nearWeek());
    }

    private String blanks(int least) {
        return " ".repeat(least + (dice.nextInt(6) == 0 ? 1 + dice.nextInt(2) : 0));
    }

    private static int four(StringBuilder text, int at) {
        return text.charAt(at) << 24 | text.charAt(at + 1) << 16 | text.charAt(at + 2) << 8 | text.charAt(at + 3);
    }
}
