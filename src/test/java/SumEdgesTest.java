/** SUM, HIGH, LOW and EDGE of Terms 3, and promises 13 to 15: each sentence that names an edge, with a test of its own. */
public final class SumEdgesTest {
    private static final Check c = new Check();

    public static void main(String[] args) {
        cuts();
        zeroWithout();
        others();
        upToABound();
        byChildren();
        byNights();
        leastAndMost();
        highAndLow();
        edges();
        sumAsks();
        dueAsks();
        edgeAsks();
        c.end();
    }

    /** A LAW from WEEK 0, so many CHILDREN, an INCOME, and so many OTHERS. */
    private static ChildPay with(String law, int income, int children, int others) {
        ChildPay x = new ChildPay();
        Check.law(x, law, 0);
        x.change(1, income, 0);
        for (int i = 0; i < children; i++) x.change(2, 1, 0);
        x.change(0, others, 0);
        return x;
    }

    private static int sum(String law, int income, int children, int others, int n) {
        return with(law, income, children, others).sum(0, n, 0);
    }

    private static void cuts() {
        c.says("All numbers are whole; / cuts (nothing below 0 is divided).");
        c.due("just below 1", sum("take 1", 99, 1, 0, 0), 0);
        c.due("just 1", sum("take 1", 100, 1, 0, 0), 1);
        c.due("just below 2", sum("take 1", 199, 1, 0, 0), 1);
        c.due("60 of 99999", sum("take 60", 99999, 1, 0, 0), 59999);
    }

    private static void zeroWithout() {
        c.says("SUM of a WEEK w, with n NIGHTS, AS KNOWN at k: 0 without a LAW or CHILDREN.");
        ChildPay x = new ChildPay();
        x.change(1, 1000, 0);
        x.change(2, 1, 5);
        c.due("without a LAW", x.sum(5, 0, 0), 0);
        Check.law(x, "take 10 least 7", 4);
        c.due("a WEEK ahead of the LAW", x.sum(3, 0, 0), 0);
        c.due("a WEEK ahead of the CHILD, F is not told", x.sum(4, 0, 0), 0);
        c.due("with both", x.sum(5, 0, 0), 100);
        x.change(2, -1, 6);
        c.due("no more CHILDREN", x.sum(6, 0, 0), 0);
        x.change(2, -1, 7);
        c.due("less than none", x.sum(7, 0, 0), 0);
        c.due("a CHILD, but no INCOME", sum("take 10 least 7", 0, 1, 0, 0), 7);
        c.due("a CHILD, no INCOME, no F", sum("take 10", 0, 1, 0, 0), 0);
    }

    private static void others() {
        c.says("of INCOME less M hundredths of it (cut) for each of OTHERS (0 at least)");
        for (int others = 0; others <= 5; others++) {
            c.due("20 hundredths, OTHERS " + others, sum("take 10 other 20", 1000, 1, others, 0), 100 - 20 * others);
        }
        c.due("cut: 0 of 99 for each", sum("take 50 other 1", 99, 1, 5, 0), 49);
        c.due("1 of 100 for each", sum("take 50 other 1", 100, 1, 5, 0), 47);
        c.due("cut ahead of the times: 199 - 5 * 1", sum("take 60 other 1", 199, 1, 5, 0), 116);
        c.due("all of the greatest INCOME", sum("take 60 other 20", 100000, 4, 5, 0), 0);
        c.due("cut: 99 - 5 * 19 stay", sum("take 60 other 20", 99, 1, 5, 0), 2);
        c.due("M 0", sum("take 10 other 0", 1000, 1, 5, 0), 100);
        c.due("M not told", sum("take 10", 1000, 1, 5, 0), 100);
        c.due("ahead of F", sum("take 60 other 20 least 3", 100000, 4, 5, 0), 3);
    }

    private static void upToABound() {
        c.says("up to A (all, if not told) P hundredths, of what is above Q hundredths (each cut)");
        String law = "take 20 over 1000 take 1";
        int[][] want = {{0, 0}, {999, 199}, {1000, 200}, {1001, 200}, {1099, 200}, {1100, 201}, {100000, 1190}};
        for (int[] w : want) c.due("INCOME " + w[0], sum(law, w[0], 1, 0, 0), w[1]);
        c.due("each cut: 99 and 99", sum("take 1 over 99 take 1", 198, 1, 0, 0), 0);
        c.due("A 1", sum("take 60 over 1 take 50", 201, 1, 0, 0), 100);
        c.due("A 100000: all", sum("take 10 over 100000 take 60", 100000, 1, 0, 0), 10000);
        c.due("A 99900: a hundred above", sum("take 10 over 99900 take 60", 100000, 1, 0, 0), 9990 + 60);
        c.due("Q 0", sum("take 10 over 100 take 0", 100000, 1, 0, 0), 10);
        c.due("P 0", sum("take 0 over 100 take 10", 1100, 1, 0, 0), 100);
        c.due("not told: all", sum("take 10", 100000, 1, 0, 0), 10000);
        ChildPay x = with("take 10 over 100 take 0", 1000, 1, 0);
        Check.law(x, "take 10", 1);
        c.due("an A of another LAW is not this one's", x.sum(1, 0, 0), 100);
        c.due("what is less for OTHERS is less ahead of A", sum("take 10 over 800 take 60 other 20", 1000, 1, 1, 0), 80);
    }

    private static void byChildren() {
        c.says("times 100, 150, 180, 200 by CHILDREN 1 .. 4, / 100;");
        int[] want = {0, 33, 49, 59, 66, 66};
        for (int children = 0; children <= 5; children++) c.due("CHILDREN " + children, sum("take 33", 100, children, 0, 0), want[children]);
        c.due("1 of 2: cut", sum("take 1", 100, 2, 0, 0), 1);
        c.due("1 of 3: cut", sum("take 1", 100, 3, 0, 0), 1);
        int[] all = {0, 60000, 90000, 108000, 120000, 120000};
        for (int children = 0; children <= 5; children++) c.due("the greatest, CHILDREN " + children, sum("take 60", 100000, children, 0, 0), all[children]);
    }

    private static void byNights() {
        c.says("less N hundredths of that (cut) for each NIGHT (0 at least);");
        for (int n = 0; n <= 7; n++) {
            c.due("14 hundredths of 100, NIGHTS " + n, sum("take 10 night 14", 1000, 1, 0, n), 100 - 14 * n);
            c.due("cut: 0 of 7, NIGHTS " + n, sum("take 7 night 14", 100, 1, 0, n), 7);
            c.due("1 of 8, NIGHTS " + n, sum("take 8 night 14", 100, 1, 0, n), 8 - n);
            c.due("N 0, NIGHTS " + n, sum("take 10 night 0", 1000, 1, 0, n), 100);
            c.due("N not told, NIGHTS " + n, sum("take 10", 1000, 1, 0, n), 100);
        }
        c.due("of what CHILDREN make it: 150 - 3 * 21", sum("take 10 night 14", 1000, 2, 0, 3), 87);
        c.due("the greatest with 7", sum("take 60 night 14", 100000, 4, 0, 7), 2400);
    }

    private static void leastAndMost() {
        c.says("F at least, C at most.");
        String law = "take 10 night 10 least 50 most 80";
        int[] want = {80, 80, 80, 70, 60, 50, 50, 50};
        for (int n = 0; n <= 7; n++) c.due("NIGHTS " + n, sum(law, 1000, 1, 0, n), want[n]);
        c.due("F is C", sum("take 10 least 7 most 7", 1000, 1, 0, 0), 7);
        c.due("F is C, from below", sum("take 10 least 7 most 7", 0, 1, 0, 0), 7);
        c.due("C 1", sum("take 10 most 1", 1000, 1, 0, 0), 1);
        c.due("F 100000", sum("take 10 least 100000", 0, 1, 0, 0), 100000);
        c.due("F 0", sum("take 0 least 0", 1000, 1, 0, 0), 0);
        c.due("CHILDREN do not lift C", sum("take 10 most 100", 1000, 4, 0, 0), 100);
        c.says("(F is 0, if not told; without most there is no most).");
        c.due("F not told", sum("take 0", 1000, 1, 0, 0), 0);
        c.due("above each C that can be told", sum("take 60", 100000, 4, 0, 0), 120000);
        c.due("C 100000", sum("take 60 most 100000", 100000, 4, 0, 0), 100000);
        ChildPay x = with("take 10 least 500 most 600", 1000, 1, 0);
        Check.law(x, "take 10", 1);
        c.due("an F of another LAW is not this one's", x.sum(1, 0, 0), 100);
        x.change(1, 100000, 1);
        c.due("nor its C", x.sum(1, 0, 0), 10000);
    }

    private static void highAndLow() {
        c.says("HIGH and LOW of a WEEK: the greater and the lesser of SUMS with the NIGHTS at its two ends.");
        ChildPay x = with("take 10 night 10", 1000, 1, 0);
        x.sheet(0, 120);
        x.sheet(1, 120);
        int[][] told = {{0, 7}, {7, 0}, {3, 3}, {6, 5}};
        int[][] want = {{30, 100}, {30, 100}, {70, 70}, {40, 50}};
        for (int i = 0; i < told.length; i++) {
            x.mark(0, 119, told[i][0]);
            x.mark(1, 119, told[i][1]);
            c.due("LOW " + i, x.due(119, 0, 0), want[i][0]);
            c.due("HIGH " + i, x.due(119, 1, 0), want[i][1]);
        }
        x.school(119, 1);
        c.due("LOW by the SCHOOL", x.due(119, 0, 0), 90);
        c.due("HIGH by the SCHOOL", x.due(119, 1, 0), 90);
        ChildPay bare = with("take 10 night 10", 1000, 1, 0);
        c.due("LOW, told by none", bare.due(0, 0, 0), 100);
        c.due("HIGH, told by none", bare.due(0, 1, 0), 100);
    }

    private static void edges() {
        c.says("EDGE of a WEEK: by how much its SUM with one NIGHT more is less (with n NIGHTS, 0 .. 6, told).");
        ChildPay x = with("take 10 night 10 least 45 most 85", 1000, 1, 0);
        int[] want = {0, 5, 10, 10, 10, 5, 0};
        for (int n = 0; n <= 6; n++) {
            c.due("n " + n, x.edge(0, n), want[n]);
            c.due("as its SUMS, n " + n, x.sum(0, n, 0) - x.sum(0, n + 1, 0), want[n]);
        }
        c.due("without CHILDREN", with("take 10 night 10", 1000, 0, 0).edge(0, 0), 0);
        c.due("without a LAW", new ChildPay().edge(0, 6), 0);
        x.school(0, 7);
        c.due("NIGHTS as told by n, not by the SCHOOL", x.edge(0, 2), 10);
        x.forgive(0, 1);
        c.due("FORGIVEN", x.edge(0, 2), 10);
        ChildPay late = with("take 10 night 10", 1000, 1, 0);
        late.weeks(5);
        late.change(1, 2000, 0);
        c.due("AS KNOWN at NOW", late.edge(0, 0), 20);
        c.due("of a WEEK to come", late.edge(119, 6), 20);
    }

    private static ChildPay atFive() {
        ChildPay x = with("take 10", 1000, 1, 0);
        x.weeks(5);
        return x;
    }

    private static void sumAsks() {
        c.says("SUM of a WEEK with n NIGHTS (0 .. 7), AS KNOWN at k (0 .. NOW). BAD.");
        c.range("week", 0, 119, week -> atFive().sum(week, 0, 0));
        c.range("n", 0, 7, n -> atFive().sum(0, n, 0));
        c.range("k", 0, 5, k -> atFive().sum(0, 0, k));
        c.range("k at NOW 0", 0, 0, k -> new ChildPay().sum(0, 0, k));
        ChildPay x = atFive();
        x.change(1, 2000, 0);
        c.due("AS KNOWN a WEEK ahead", x.sum(0, 0, 4), 100);
        c.due("AS KNOWN at NOW", x.sum(0, 0, 5), 200);
        c.due("a WEEK to come, AS KNOWN at 0", x.sum(119, 0, 0), 100);
    }

    private static void dueAsks() {
        c.says("LOW (side 0), HIGH (1) of a WEEK, AS KNOWN at k. BAD.");
        c.range("week", 0, 119, week -> atFive().due(week, 0, 0));
        c.range("side", 0, 1, side -> atFive().due(0, side, 0));
        c.range("k", 0, 5, k -> atFive().due(0, 0, k));
        c.range("k at NOW 0", 0, 0, k -> new ChildPay().due(0, 1, k));
        ChildPay x = atFive();
        x.change(1, 2000, 0);
        c.due("AS KNOWN a WEEK ahead", x.due(0, 0, 4), 100);
        c.due("AS KNOWN at NOW", x.due(0, 0, 5), 200);
        c.due("a WEEK behind k", x.due(119, 1, 0), 100);
    }

    private static void edgeAsks() {
        c.says("EDGE of a WEEK with n NIGHTS (0 .. 6), AS KNOWN at NOW. BAD.");
        c.range("week", 0, 119, week -> atFive().edge(week, 0));
        c.range("n", 0, 6, n -> atFive().edge(0, n));
    }
}
