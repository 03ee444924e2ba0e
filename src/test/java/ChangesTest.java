/** Promises 1 to 6. */
public final class ChangesTest {
    private static final Check c = new Check();

    public static void main(String[] args) {
        newObject();
        ranges();
        full();
        kinds();
        takenBack();
        knownIncome();
        knownChildren();
        knownOthers();
        knownAsks();
        c.end();
    }

    private static void newObject() {
        ChildPay x = new ChildPay();
        for (int what = 0; what <= 7; what++) c.due("new count(" + what + ")", x.count(what), 0);
        c.due("new isOf", x.isOf(0, 0), Check.BAD);
        c.due("new inForce", x.inForce(0), Check.NONE);
        c.due("new known", x.known(0, 119, 0), 0);
        c.due("new known", x.known(0, 119, 1), 0);
        c.due("new known", x.known(0, 119, 2), 0);
        c.due("new marks", x.marks(0), 1);
        c.due("new rate", x.rate(0), 0);
        c.due("new school", x.school(0, 0), Check.NONE);
        c.due("new lose 0", x.lose(0), Check.NOTHING);
        c.due("new lose 1", x.lose(1), Check.NOTHING);
    }

    private static void ranges() {
        int[][] good = {{0, 0, 0}, {0, 5, 119}, {1, 0, 0}, {1, 100000, 119}, {2, 1, 0}, {2, -1, 119}, {3, 0, 0}, {3, 100000, 7}};
        int[][] bad = {{-1, 0, 0}, {4, 0, 0}, {0, -1, 0}, {0, 6, 0}, {1, -1, 0}, {1, 100001, 0}, {2, 0, 0}, {2, 2, 0},
            {2, -2, 0}, {3, -1, 0}, {3, 100001, 0}, {0, 0, -1}, {0, 0, 120}, {1, 0, 120}, {2, 1, 120}, {3, 0, -1}};
        ChildPay x = new ChildPay();
        int number = 0;
        for (int[] g : good) c.due("change good " + number, x.change(g[0], g[1], g[2]), number++);
        for (int[] b : bad) c.due("change " + b[0] + " " + b[1] + " " + b[2], x.change(b[0], b[1], b[2]), Check.BAD);
        for (int far : Check.FAR) {
            c.due("change far kind", x.change(far, 0, 0), Check.BAD);
            c.due("change far v", x.change(1, far, 0), Check.BAD);
            c.due("change far from", x.change(1, 0, far), Check.BAD);
        }
        c.due("refused changes nothing", x.count(0), good.length);
        for (int i = 0; i < good.length; i++) {
            for (int what = 0; what < 3; what++) c.due("told(" + i + ", " + what + ")", x.told(i, what), good[i][what]);
            c.due("told in", x.told(i, 3), 0);
            c.due("told back", x.told(i, 4), Check.NONE);
        }
        c.due("told what -1", x.told(0, -1), Check.BAD);
        c.due("told what 5", x.told(0, 5), Check.BAD);
        c.due("told change -1", x.told(-1, 0), Check.BAD);
        c.due("told no change", x.told(good.length, 0), Check.BAD);
    }

    private static void full() {
        ChildPay x = new ChildPay();
        for (int i = 0; i < 80; i++) c.due("change " + i, x.change(1, i, 0), i);
        c.due("change BAD ahead of FULL", x.change(1, -1, 0), Check.BAD);
        c.due("change FULL", x.change(1, 1, 0), Check.FULL);
        c.due("takeBack makes no room", x.takeBack(0), 1);
        c.due("change still FULL", x.change(1, 1, 0), Check.FULL);
        c.due("count", x.count(0), 80);
        c.due("count not back", x.count(1), 79);
        c.due("known", x.known(0, 0, 0), 79);
        c.due("no children of 80", x.known(0, 0, 1), 0);
        c.due("no others of 80", x.known(0, 0, 2), 0);
    }

    private static void kinds() {
        ChildPay x = new ChildPay();
        for (int kind = 0; kind < 4; kind++) x.change(kind, 1, 0);
        int[][] want = {{1, 0, 0, 0}, {1, 1, 0, 0}, {1, 0, 1, 0}, {1, 1, 0, 1}};
        for (int i = 0; i < 4; i++) {
            for (int kind = 0; kind < 4; kind++) c.due("isOf(" + i + ", " + kind + ")", x.isOf(i, kind), want[i][kind]);
        }
        c.due("isOf kind 4", x.isOf(0, 4), Check.BAD);
        c.due("isOf kind -1", x.isOf(0, -1), Check.BAD);
        c.due("isOf change 4", x.isOf(4, 0), Check.BAD);
        c.due("isOf change -1", x.isOf(-1, 0), Check.BAD);
    }

    private static void takenBack() {
        ChildPay x = new ChildPay();
        x.change(1, 10, 0);
        x.weeks(5);
        x.change(1, 20, 0);
        x.change(1, 30, 1);
        c.due("told in 5", x.told(1, 3), 5);
        c.due("takeBack same week", x.takeBack(2), 1);
        c.due("never known", x.known(5, 9, 0), 20);
        x.weeks(3);
        c.due("takeBack", x.takeBack(1), 1);
        c.due("takeBack again", x.takeBack(1), Check.NO);
        c.due("takeBack none", x.takeBack(3), Check.BAD);
        c.due("takeBack -1", x.takeBack(-1), Check.BAD);
        c.due("taken back in", x.told(1, 4), 8);
        c.due("known at 4", x.known(4, 9, 0), 10);
        c.due("known at 5", x.known(5, 9, 0), 20);
        c.due("known at 7", x.known(7, 9, 0), 20);
        c.due("known at 8", x.known(8, 9, 0), 10);
        x.weeks(1);
        c.due("again NO", x.takeBack(1), Check.NO);
        c.due("stays taken back in", x.told(1, 4), 8);
        c.due("count not back", x.count(1), 1);
        c.due("told stays", x.told(1, 1), 20);
    }

    private static void knownIncome() {
        ChildPay x = new ChildPay();
        x.change(1, 500, 3);
        c.due("ahead of its week", x.known(0, 2, 0), 0);
        c.due("its week", x.known(0, 3, 0), 500);
        x.change(1, 400, 2);
        c.due("a later week wins over a later number", x.known(0, 3, 0), 500);
        c.due("earlier one", x.known(0, 2, 0), 400);
        x.change(1, 300, 3);
        c.due("same week: the greatest number, not the most coins", x.known(0, 3, 0), 300);
        x.change(3, 7, 1);
        c.due("a true one wins", x.known(0, 100, 0), 7);
        c.due("not ahead of its week", x.known(0, 0, 0), 0);
        x.change(3, 0, 50);
        c.due("a true 0 is told", x.known(0, 50, 0), 0);
        x.change(3, 9, 50);
        x.change(3, 8, 50);
        c.due("greatest number of true ones", x.known(0, 50, 0), 8);
        x.takeBack(6);
        c.due("the one ahead of it", x.known(0, 50, 0), 9);
    }

    private static void knownChildren() {
        ChildPay x = new ChildPay();
        x.change(2, -1, 0);
        x.change(2, -1, 0);
        c.due("0 at least", x.known(0, 0, 1), 0);
        for (int i = 0; i < 7; i++) x.change(2, 1, 1);
        c.due("all together, then at most 4", x.known(0, 1, 1), 4);
        x.change(2, -1, 2);
        c.due("4 of 4", x.known(0, 2, 1), 4);
        x.change(2, -1, 3);
        c.due("3", x.known(0, 3, 1), 3);
        c.due("others stay", x.known(0, 3, 2), 0);
        c.due("income stays", x.known(0, 3, 0), 0);
    }

    private static void knownOthers() {
        ChildPay x = new ChildPay();
        x.change(0, 5, 1);
        x.change(0, 2, 1);
        x.change(0, 3, 0);
        c.due("greatest number", x.known(0, 1, 2), 2);
        c.due("week 0", x.known(0, 0, 2), 3);
        x.change(1, 4, 2);
        x.change(2, 1, 2);
        x.change(3, 4, 2);
        c.due("other kinds do not count", x.known(0, 2, 2), 2);
        c.due("KIND 0 is no child", x.known(0, 1, 1), 0);
    }

    private static void knownAsks() {
        ChildPay x = new ChildPay();
        x.weeks(10);
        c.due("k NOW", x.known(10, 0, 0), 0);
        c.due("k above NOW", x.known(11, 0, 0), Check.BAD);
        c.due("k -1", x.known(-1, 0, 0), Check.BAD);
        c.due("week 119", x.known(0, 119, 0), 0);
        c.due("week 120", x.known(0, 120, 0), Check.BAD);
        c.due("week -1", x.known(0, -1, 0), Check.BAD);
        c.due("what 3", x.known(0, 0, 3), Check.BAD);
        c.due("what -1", x.known(0, 0, -1), Check.BAD);
    }
}
