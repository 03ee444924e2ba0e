/** Promises 9 to 12. */
public final class LawsTest {
    private static final Check c = new Check();

    public static void main(String[] args) {
        tape();
        bytes();
        goodTexts();
        faults();
        refusals();
        inForce();
        c.end();
    }

    private static void tape() {
        ChildPay x = new ChildPay();
        for (int i = 1; i <= 6; i++) c.due("feed", x.feed(0, -1, i), 12 * i);
        c.due("feed FULL", x.feed(0, 0, 0), Check.FULL);
        c.due("bytes", x.count(7), 72);
        c.due("trim 73", x.trim(73), Check.BAD);
        c.due("trim -1", x.trim(-1), Check.BAD);
        c.due("trim 72", x.trim(72), 72);
        c.due("trim 61", x.trim(61), 61);
        c.due("feed FULL", x.feed(0, 0, 0), Check.FULL);
        c.due("bytes", x.count(7), 61);
        c.due("trim 60", x.trim(60), 60);
        c.due("feed", x.feed(0, 0, 0), 72);
        c.due("trim 0", x.trim(0), 0);
        c.due("trim 1", x.trim(1), Check.BAD);
        c.due("bytes", x.count(7), 0);
    }

    private static void bytes() {
        ChildPay x = new ChildPay();
        x.feed(0x74616B65, 0x20313220, 0x20202020);
        c.due("the highest byte first", x.law(0), 0);
        x.feed(0x656B6174, 0x20323120, 0x20202020);
        c.due("not the lowest", x.law(0), -100);
        x.feed(0x74616B65, 0x20, 0);
        x.trim(4);
        x.feed(0x20352020, 0x20202020, 0x20202020);
        c.due("feed behind a trim", x.law(0), 1);
    }

    private static void goodTexts() {
        String[] texts = {"take 0", "take 60", "   take   7   ", "take 007", "take 00000000000000000000000000000060",
            "take 1 over 1 take 0", "take 1 over 100000 take 60", "take 1 night 0", "take 1 night 14", "take 1 other 0",
            "take 1 other 20", "take 1 least 0", "take 1 least 100000", "take 1 most 1", "take 1 most 100000",
            "take 1 least 5 most 5", "take 1 least 100000 most 100000", "take 1 least 0 most 1", "take 1 night 3 most 4",
            "take 60 over 100000 take 60 night 14 other 20 least 99 most 100000", "take 5 over 9 take 1 other 4",
            "take 5" + " ".repeat(66), " ".repeat(66) + "take 5"};
        for (String text : texts) {
            ChildPay x = new ChildPay();
            c.due("law '" + text + "'", Check.law(x, text, 119), 0);
            c.due("used up", x.count(7), 0);
        }
    }

    private static void fault(String text, int place) {
        ChildPay x = new ChildPay();
        c.due("law '" + text + "'", Check.law(x, text, 0), -100 - place);
        c.due("used up by '" + text + "'", x.count(7), 0);
        c.due("no law by '" + text + "'", x.count(2), 0);
    }

    private static void faults() {
        fault("", 0);
        fault("   ", 3);
        fault("tak", 0);
        fault("takes 5", 0);
        fault("Take 5", 0);
        fault("  5", 2);
        fault("take", 4);
        fault("take   ", 7);
        fault("take5", 0);
        fault("take 61", 5);
        fault("take 4294967297", 5);
        fault("take 18446744073709551617", 5);
        fault("take -1", 5);
        fault("take +1", 5);
        fault("take 1x", 5);
        fault("take x", 5);
        fault("take 5 5", 7);
        fault("take 5 take 5", 7);
        fault("take 5 over", 11);
        fault("take 5 over ", 12);
        fault("take 5 over 0 take 3", 12);
        fault("take 5 over 100001 take 3", 12);
        fault("take 5 over 10", 14);
        fault("take 5 over 10 night 3", 15);
        fault("take 5 over 10 take", 19);
        fault("take 5 over 10 take 61", 20);
        fault("take 5 over 1 take 6 over 2 take 7", 21);
        fault("take 5 night 15", 13);
        fault("take 5 night", 12);
        fault("take 5 night 1 night 1", 15);
        fault("take 5 night 1 over 3 take 1", 15);
        fault("take 5 other 21", 13);
        fault("take 5 other 1 night 1", 15);
        fault("take 5 least 100001", 13);
        fault("take 5 least 1 other 1", 15);
        fault("take 5 most 0", 12);
        fault("take 5 most 100001", 12);
        fault("take 5 most 9 least 3", 14);
        fault("take 5 least 9 most 8", 20);
        fault("take 5 most 8 x", 14);
        fault("take 5 most 8 7", 14);
        fault("take 61 x y", 5);
        fault("take 5 nights 1", 7);
        fault("take 5 nigh 1", 7);
        fault("take 5\u0000", 5);
        fault("take 5 \u0000", 7);
        fault("take\t5", 0);
        fault("take 1:", 5);
        fault("take 1/", 5);
        fault("take 5 over 9 take 1 night" + " ".repeat(46), 72);
        fault("take \u00b2", 5);
        fault("take 5 \u00ff", 7);
        fault("take 5 night \u00b11", 13);
    }

    private static void refusals() {
        ChildPay x = new ChildPay();
        c.due("BAD ahead of the fault", Check.law(x, "x", 120), Check.BAD);
        c.due("used up", x.count(7), 0);
        c.due("BAD -1", Check.law(x, "take 5", -1), Check.BAD);
        c.due("used up", x.count(7), 0);
        for (int far : Check.FAR) c.due("BAD far", Check.law(x, "take 5", far), Check.BAD);
        for (int i = 0; i < 8; i++) c.due("law", Check.law(x, "take 5", 0), i);
        c.due("BAD ahead of FULL", Check.law(x, "take 5", 120), Check.BAD);
        c.due("the fault ahead of FULL", Check.law(x, "take 5 x", 0), -107);
        c.due("FULL", Check.law(x, "take 9", 0), Check.FULL);
        c.due("used up", x.count(7), 0);
        c.due("count", x.count(2), 8);
        x.change(1, 100, 0);
        x.change(2, 1, 0);
        c.due("a refused text leaves the laws", x.sum(0, 0, 0), 5);
    }

    private static void inForce() {
        ChildPay x = new ChildPay();
        Check.law(x, "take 1", 10);
        Check.law(x, "take 2", 5);
        Check.law(x, "take 3", 10);
        Check.law(x, "take 4", 119);
        int[][] want = {{0, Check.NONE}, {4, Check.NONE}, {5, 1}, {9, 1}, {10, 2}, {118, 2}, {119, 3}, {120, Check.BAD}, {-1, Check.BAD}};
        for (int[] w : want) c.due("inForce(" + w[0] + ")", x.inForce(w[0]), w[1]);
        Check.law(x, "take 5", 5);
        c.due("the same week and told later", x.inForce(6), 4);
        c.due("a later week stays", x.inForce(10), 2);
    }
}
