/** Promises 13 to 15. */
public final class SumsTest {
    private static final Check c = new Check();

    public static void main(String[] args) {
        without();
        shares();
        others();
        children();
        nights();
        bounds();
        greatest();
        asKnown();
        dues();
        asks();
        c.end();
    }

    private static ChildPay with(String law, int income) {
        ChildPay x = new ChildPay();
        Check.law(x, law, 0);
        x.change(1, income, 0);
        x.change(2, 1, 0);
        return x;
    }

    private static void without() {
        ChildPay x = new ChildPay();
        x.change(1, 1000, 0);
        x.change(2, 1, 3);
        c.due("no law", x.sum(3, 0, 0), 0);
        Check.law(x, "take 10 least 5", 2);
        c.due("no law yet", x.sum(1, 0, 0), 0);
        c.due("no children: not even the least", x.sum(2, 0, 0), 0);
        c.due("both", x.sum(3, 0, 0), 100);
        c.due("no income: the least", with("take 10 least 5", 0).sum(0, 0, 0), 5);
        c.due("edge without", x.edge(2, 0), 0);
    }

    private static void shares() {
        c.due("cut", with("take 33", 199).sum(0, 0, 0), 65);
        c.due("below A", with("take 20 over 300 take 10", 299).sum(0, 0, 0), 59);
        c.due("at A", with("take 20 over 300 take 10", 300).sum(0, 0, 0), 60);
        c.due("above A", with("take 20 over 300 take 10", 309).sum(0, 0, 0), 60);
        c.due("above A", with("take 20 over 300 take 10", 310).sum(0, 0, 0), 61);
        c.due("each cut", with("take 50 over 33 take 50", 66).sum(0, 0, 0), 32);
        c.due("take 0", with("take 0 over 100 take 60", 200).sum(0, 0, 0), 60);
    }

    private static void others() {
        ChildPay x = with("take 10 other 7", 1099);
        x.change(0, 3, 1);
        c.due("none", x.sum(0, 0, 0), 109);
        c.due("three, each cut: 1099 - 3 * 76", x.sum(1, 0, 0), 87);
        ChildPay y = with("take 60 other 3", 99);
        y.change(0, 5, 0);
        c.due("cut for each: 99 - 5 * 2", y.sum(0, 0, 0), 53);
        ChildPay z = with("take 60 other 20", 100);
        z.change(0, 5, 0);
        c.due("0 at least", z.sum(0, 0, 0), 0);
        ChildPay untold = with("take 10", 1000);
        untold.change(0, 5, 0);
        c.due("other not told", untold.sum(0, 0, 0), 100);
        ChildPay first = with("take 10 over 80 take 50 other 20", 100);
        first.change(0, 1, 0);
        c.due("ahead of A", first.sum(0, 0, 0), 8);
    }

    private static void children() {
        ChildPay x = with("take 33", 100);
        for (int i = 1; i <= 4; i++) {
            ChildPay y = with("take 60", 100000);
            for (int more = 1; more < i; more++) y.change(2, 1, 0);
            c.due("children " + i, y.sum(0, 0, 0), 600 * new int[] {100, 150, 180, 200}[i - 1]);
        }
        int[] want = {33, 49, 59, 66, 66};
        for (int i = 0; i < 5; i++) {
            c.due("children " + (i + 1), x.sum(0, 0, 0), want[i]);
            x.change(2, 1, 0);
        }
    }

    private static void nights() {
        ChildPay x = with("take 10 night 14", 1500);
        for (int n = 0; n <= 7; n++) c.due("nights " + n, x.sum(0, n, 0), 150 - 21 * n);
        for (int n = 0; n < 7; n++) c.due("edge " + n, x.edge(0, n), 21);
        ChildPay y = with("take 10 night 11", 180);
        c.due("cut for each: 18 - 7 * 1", y.sum(0, 7, 0), 11);
        ChildPay z = with("take 10 night 14 least 20 most 90", 1000);
        int[] want = {90, 86, 72, 58, 44, 30, 20, 20};
        for (int n = 0; n <= 7; n++) c.due("bounded " + n, z.sum(0, n, 0), want[n]);
        for (int n = 0; n < 7; n++) c.due("bounded edge " + n, z.edge(0, n), want[n] - want[n + 1]);
        ChildPay two = with("take 33 night 10", 100);
        two.change(2, 1, 0);
        c.due("of what the children make it: 49 - 4", two.sum(0, 1, 0), 45);
    }

    private static void bounds() {
        c.due("least", with("take 10 least 50", 100).sum(0, 0, 0), 50);
        c.due("most", with("take 10 most 9", 100).sum(0, 0, 0), 9);
        c.due("least is most", with("take 10 least 7 most 7", 100).sum(0, 0, 0), 7);
        c.due("least behind nights", with("take 10 night 14 least 3", 100).sum(0, 7, 0), 3);
        c.due("least 100000", with("take 10 least 100000", 100).sum(0, 0, 0), 100000);
    }

    private static void greatest() {
        ChildPay x = with("take 60 over 100000 take 60 night 14 other 20", 100000);
        for (int i = 0; i < 3; i++) x.change(2, 1, 0);
        c.due("the greatest sum", x.sum(0, 0, 0), 120000);
        c.due("the greatest sum, 7 nights", x.sum(0, 7, 0), 2400);
        x.change(0, 4, 0);
        c.due("four others", x.sum(0, 0, 0), 24000);
        x.change(0, 5, 0);
        c.due("five others", x.sum(0, 0, 0), 0);
    }

    private static void asKnown() {
        ChildPay x = with("take 10", 1000);
        x.weeks(2);
        x.change(1, 2000, 0);
        x.change(2, 1, 5);
        c.due("as known at 1", x.sum(0, 0, 1), 100);
        c.due("as known at 2", x.sum(0, 0, 2), 200);
        c.due("a week to come", x.sum(119, 0, 2), 300);
        c.due("a week to come, as known at 0", x.sum(119, 0, 0), 100);
        Check.law(x, "take 10 night 10", 0);
        c.due("edge as known at NOW", x.edge(0, 0), 20);
        c.due("a law is known at once", x.sum(0, 1, 0), 90);
    }

    private static void dues() {
        ChildPay x = with("take 10 night 10", 1000);
        x.weeks(1);
        x.sheet(0, 2);
        x.sheet(1, 1);
        x.mark(0, 0, 5);
        x.mark(1, 0, 3);
        c.due("LOW", x.due(0, 0, 1), 50);
        c.due("HIGH", x.due(0, 1, 1), 70);
        c.due("as known at 0: nights are known at once", x.due(0, 1, 0), 70);
        c.due("one diary", x.due(1, 0, 1), 100);
        c.due("none", x.due(119, 1, 1), 100);
        x.forgive(0, 1);
        c.due("forgiven LOW", x.due(0, 0, 1), 0);
        c.due("forgiven HIGH", x.due(0, 1, 0), 0);
        c.due("sum as it was", x.sum(0, 5, 1), 50);
        c.due("edge as it was", x.edge(0, 5), 10);
        x.forgive(0, 0);
        c.due("not forgiven", x.due(0, 0, 1), 50);
    }

    private static void asks() {
        ChildPay x = with("take 10", 1000);
        x.weeks(3);
        int[][] sums = {{-1, 0, 0}, {120, 0, 0}, {0, -1, 0}, {0, 8, 0}, {0, 0, -1}, {0, 0, 4}};
        for (int[] s : sums) c.due("sum " + java.util.Arrays.toString(s), x.sum(s[0], s[1], s[2]), Check.BAD);
        int[][] dues = {{-1, 0, 0}, {120, 0, 0}, {0, -1, 0}, {0, 2, 0}, {0, 0, -1}, {0, 0, 4}};
        for (int[] d : dues) c.due("due " + java.util.Arrays.toString(d), x.due(d[0], d[1], d[2]), Check.BAD);
        int[][] edges = {{-1, 0}, {120, 0}, {0, -1}, {0, 7}};
        for (int[] e : edges) c.due("edge " + java.util.Arrays.toString(e), x.edge(e[0], e[1]), Check.BAD);
        c.due("sum(119, 7, 3)", x.sum(119, 7, 3), 100);
        c.due("due(119, 1, 3)", x.due(119, 1, 3), 100);
        c.due("edge(119, 6)", x.edge(119, 6), 0);
    }
}
