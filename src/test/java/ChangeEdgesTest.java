/** Terms 1 and promises 1 to 6: each sentence that names an edge, with a test of its own. */
public final class ChangeEdgesTest {
    private static final Check c = new Check();
    private static final int INCOME = 0, CHILDREN = 1, OTHERS = 2;

    public static void main(String[] args) {
        nowAtFirst();
        eightyAtMost();
        kindsOfKinds();
        holdsFromAWeekOn();
        knownFromNow();
        values();
        takenBackFromNowOn();
        asKnown();
        trueIncome();
        otherIncome();
        children();
        others();
        newObject();
        changeAsks();
        isOfAsks();
        takeBackAsks();
        toldAsks();
        knownAsks();
        c.end();
    }

    private static ChildPay at(int now) {
        ChildPay x = new ChildPay();
        if (now > 60) x.weeks(60);
        if (now > 0) x.weeks(now > 60 ? now - 60 : now);
        return x;
    }

    private static ChildPay withOne(int kind, int v, int from) {
        ChildPay x = new ChildPay();
        x.change(kind, v, from);
        return x;
    }

    private static void nowAtFirst() {
        c.says("WEEKS 0 .. 119; NOW is a WEEK, 0 at first.");
        ChildPay x = new ChildPay();
        c.due("NOW", x.count(4), 0);
        c.due("k 1 is to come", x.known(1, 0, INCOME), Check.BAD);
        c.due("a LINE of WEEK 1", x.line(1, 1, 0), Check.BAD);
        c.due("a LINE of WEEK 0", x.line(0, 1, 0), 0);
        ChildPay last = at(119);
        c.due("NOW may be 119", last.count(4), 119);
        c.due("but not 120", last.weeks(1), Check.BAD);
    }

    private static void eightyAtMost() {
        c.says("CHANGES, 80 at most, numbered from 0 as they come");
        ChildPay x = new ChildPay();
        for (int i = 0; i < 80; i++) c.due("CHANGE " + i, x.change(i % 4, 1, i), i);
        c.due("one more", x.change(0, 0, 0), Check.FULL);
        c.due("80 of them", x.count(0), 80);
        c.due("the last one is the 80th", x.told(79, 2), 79);
        for (int i = 0; i < 80; i++) x.takeBack(i);
        c.due("one TAKEN BACK keeps its number", x.change(0, 0, 0), Check.FULL);
        c.due("80 of them still", x.count(0), 80);
    }

    private static void kindsOfKinds() {
        c.says("(all are CHANGES; TRUE INCOMES are INCOMES, too)");
        for (int kind = 0; kind < 4; kind++) {
            ChildPay x = withOne(kind, 1, 0);
            c.due("KIND " + kind + " is a CHANGE", x.isOf(0, 0), 1);
            c.due("KIND " + kind + " is an INCOME", x.isOf(0, 1), kind == 1 || kind == 3 ? 1 : 0);
            c.due("KIND " + kind + " is a CHILD", x.isOf(0, 2), kind == 2 ? 1 : 0);
            c.due("KIND " + kind + " is a TRUE INCOME", x.isOf(0, 3), kind == 3 ? 1 : 0);
        }
    }

    private static void holdsFromAWeekOn() {
        c.says("each holds from a WEEK on");
        for (int from : new int[] {0, 1, 60, 119}) {
            ChildPay x = withOne(1, 7, from);
            x.change(2, 1, from);
            x.change(0, 3, from);
            for (int what = 0; what < 3; what++) {
                int want = new int[] {7, 1, 3}[what];
                if (from > 0) c.due("ahead of " + from, x.known(0, from - 1, what), 0);
                c.due("in " + from, x.known(0, from, what), want);
                c.due("in 119", x.known(0, 119, what), want);
            }
        }
    }

    private static void knownFromNow() {
        c.says("is KNOWN from NOW, the WEEK in which it was told (it may hold from an earlier one, or a later one)");
        ChildPay x = at(10);
        x.change(1, 100, 0);
        x.change(1, 200, 10);
        x.change(1, 300, 11);
        c.due("from an earlier WEEK", x.known(10, 0, INCOME), 100);
        c.due("not known a WEEK ahead", x.known(9, 0, INCOME), 0);
        c.due("from NOW", x.known(10, 10, INCOME), 200);
        c.due("from a later WEEK, known at once", x.known(10, 11, INCOME), 300);
        for (int i = 0; i < 3; i++) c.due("told in", x.told(i, 3), 10);
    }

    private static void values() {
        c.says("INCOME: so many coins a week (0 .. 100000).");
        c.range("INCOME", 0, 100000, v -> new ChildPay().change(1, v, 0));
        c.range("TRUE INCOME", 0, 100000, v -> new ChildPay().change(3, v, 0));
        c.due("the greatest INCOME", withOne(1, 100000, 0).known(0, 0, INCOME), 100000);
        c.due("the greatest TRUE INCOME", withOne(3, 100000, 0).known(0, 0, INCOME), 100000);
        c.says("CHILD: one more of the children (v 1) or one less (v -1).");
        for (int v : new int[] {-2, 0, 2, Integer.MIN_VALUE, Integer.MAX_VALUE}) {
            c.due("CHILD " + v, new ChildPay().change(2, v, 0), Check.BAD);
        }
        c.due("CHILD 1", new ChildPay().change(2, 1, 0), 0);
        c.due("CHILD -1", new ChildPay().change(2, -1, 0), 0);
        c.says("A CHANGE (KIND 0) by itself: other children at home, v 0 .. 5.");
        c.range("OTHERS", 0, 5, v -> new ChildPay().change(0, v, 0));
        c.due("five of them", withOne(0, 5, 0).known(0, 0, OTHERS), 5);
    }

    private static void takenBackFromNowOn() {
        c.says("A CHANGE may be TAKEN BACK: it is not KNOWN from NOW on.");
        ChildPay x = new ChildPay();
        x.change(1, 5, 0);
        x.weeks(3);
        x.takeBack(0);
        c.due("known the WEEK ahead", x.known(2, 0, INCOME), 5);
        c.due("not known NOW", x.known(3, 0, INCOME), 0);
        x.weeks(1);
        c.due("nor later", x.known(4, 0, INCOME), 0);
        c.due("still known then", x.known(2, 0, INCOME), 5);
    }

    private static void asKnown() {
        c.says("CHANGES KNOWN at k (told at k or ahead of it, not TAKEN BACK at k or ahead of it)");
        ChildPay x = at(5);
        x.change(2, 1, 0);
        x.weeks(1);
        x.change(2, 1, 0);
        x.weeks(1);
        x.takeBack(0);
        int[] want = {0, 0, 0, 0, 0, 1, 2, 1};
        for (int k = 0; k < want.length; k++) c.due("known at " + k, x.known(k, 0, CHILDREN), want[k]);
        ChildPay y = at(2);
        y.change(2, 1, 0);
        y.takeBack(0);
        for (int k = 0; k <= 2; k++) c.due("told and TAKEN BACK in one WEEK, at " + k, y.known(k, 0, CHILDREN), 0);
        c.says("that hold at w (from w or an earlier WEEK)");
        ChildPay z = new ChildPay();
        for (int from = 3; from >= 1; from--) z.change(2, 1, from);
        for (int w = 0; w < 5; w++) c.due("CHILDREN of " + w, z.known(0, w, CHILDREN), Math.min(w, 3));
    }

    private static void trueIncome() {
        c.says("the INCOME: of TRUE ones that which holds from the latest WEEK, of several the greatest number");
        ChildPay x = new ChildPay();
        x.change(3, 30, 4);
        x.change(3, 20, 4);
        x.change(3, 90, 3);
        x.change(1, 99, 5);
        c.due("from the latest WEEK, told last of those", x.known(0, 5, INCOME), 20);
        c.due("ahead of that WEEK", x.known(0, 3, INCOME), 90);
        x.takeBack(1);
        c.due("the other one of that WEEK", x.known(0, 5, INCOME), 30);
        ChildPay zero = withOne(1, 99, 0);
        zero.change(3, 0, 0);
        c.due("a TRUE 0 is one", zero.known(0, 0, INCOME), 0);
    }

    private static void otherIncome() {
        c.says("if there is none, of the others likewise; 0 without");
        ChildPay x = new ChildPay();
        c.due("without", x.known(0, 119, INCOME), 0);
        x.change(1, 30, 4);
        x.change(1, 20, 4);
        x.change(1, 90, 3);
        x.change(3, 7, 6);
        c.due("ahead of all", x.known(0, 2, INCOME), 0);
        c.due("the first WEEK", x.known(0, 3, INCOME), 90);
        c.due("from the latest WEEK, told last of those", x.known(0, 5, INCOME), 20);
        c.due("the TRUE one", x.known(0, 6, INCOME), 7);
        x.weeks(1);
        x.takeBack(3);
        c.due("the TRUE one is TAKEN BACK", x.known(1, 6, INCOME), 20);
        c.due("but was known", x.known(0, 6, INCOME), 7);
    }

    private static void children() {
        c.says("CHILDREN: all v of KIND 2 together, 0 at least, 4 at most.");
        ChildPay x = new ChildPay();
        int together = 0;
        for (int i = 0; i < 6; i++) {
            x.change(2, 1, 0);
            together++;
            c.due("together " + together, x.known(0, 0, CHILDREN), Math.min(4, together));
        }
        for (int i = 0; i < 8; i++) {
            x.change(2, -1, 0);
            together--;
            c.due("together " + together, x.known(0, 0, CHILDREN), Math.max(0, Math.min(4, together)));
        }
        for (int i = 0; i < 3; i++) {
            x.change(2, 1, 0);
            together++;
            c.due("together " + together, x.known(0, 0, CHILDREN), Math.max(0, together));
        }
        c.due("one is there now", together, 1);
    }

    private static void others() {
        c.says("OTHERS: of KIND 0 that from the latest WEEK, of several the greatest number; 0 without.");
        ChildPay x = new ChildPay();
        c.due("without", x.known(0, 119, OTHERS), 0);
        x.change(0, 5, 4);
        x.change(0, 2, 4);
        x.change(0, 4, 3);
        c.due("ahead of all", x.known(0, 2, OTHERS), 0);
        c.due("the first WEEK", x.known(0, 3, OTHERS), 4);
        c.due("from the latest WEEK, told last of those", x.known(0, 4, OTHERS), 2);
        x.takeBack(1);
        c.due("the other one of that WEEK", x.known(0, 4, OTHERS), 5);
        x.change(0, 0, 4);
        c.due("0 is one", x.known(0, 4, OTHERS), 0);
    }

    private static void newObject() {
        c.says("No CHANGES, LAWS, LINES.");
        ChildPay x = new ChildPay();
        for (int what = 0; what < 8; what++) c.due("count " + what, x.count(what), 0);
        c.due("no CHANGE", x.takeBack(0), Check.BAD);
        c.due("no LAW in WEEK 0", x.inForce(0), Check.NONE);
        c.due("no LAW in WEEK 119", x.inForce(119), Check.NONE);
        c.due("no PAYS", x.paid(0, 0), 0);
        c.due("no GIFTS", x.paid(0, 1), 0);
        c.due("the first CHANGE", x.change(0, 0, 0), 0);
        c.due("the first LAW", Check.law(x, "take 0", 0), 0);
        c.due("the first LINE", x.line(0, 1, 0), 0);
    }

    private static void changeAsks() {
        c.says("A CHANGE: its number. BAD: kind, v, from (0 .. 119); FULL.");
        c.range("kind", 0, 3, kind -> new ChildPay().change(kind, 1, 0));
        for (int kind = 0; kind < 4; kind++) {
            int of = kind;
            c.range("from of KIND " + kind, 0, 119, from -> new ChildPay().change(of, 1, from));
        }
        c.due("a CHANGE from a WEEK to come", new ChildPay().change(1, 1, 119), 0);
    }

    private static void isOfAsks() {
        c.says("Whether a CHANGE is of a KIND: 1, 0. BAD.");
        c.range("kind", 0, 3, kind -> withOne(3, 1, 0).isOf(0, kind));
        c.range("change", 0, 2, change -> three().isOf(change, 0));
        ChildPay x = three();
        x.takeBack(0);
        c.due("one TAKEN BACK is of its KIND", x.isOf(0, 1), 1);
    }

    private static ChildPay three() {
        ChildPay x = withOne(1, 1, 0);
        x.change(2, 1, 0);
        x.change(3, 1, 0);
        return x;
    }

    private static void takeBackAsks() {
        c.says("A CHANGE is TAKEN BACK: 1. BAD; NO: it is so.");
        c.range("change", 0, 2, change -> three().takeBack(change));
        ChildPay x = three();
        c.due("the first time", x.takeBack(2), 1);
        c.due("the second time", x.takeBack(2), Check.NO);
        x.weeks(1);
        c.due("a WEEK later", x.takeBack(2), Check.NO);
        c.due("another one", x.takeBack(1), 1);
    }

    private static void toldAsks() {
        c.says("what 0 KIND, 1 v, 2 from which WEEK, 3 told in which, 4 TAKEN BACK in which (NONE). BAD.");
        c.range("what", 0, 4, what -> three().told(0, what));
        c.range("change", 0, 2, change -> three().told(change, 0));
        ChildPay x = at(119);
        x.change(2, -1, 3);
        int[] want = {2, -1, 3, 119, Check.NONE};
        for (int what = 0; what < 5; what++) c.due("what " + what, x.told(0, what), want[what]);
        x.takeBack(0);
        c.due("TAKEN BACK", x.told(0, 4), 119);
        ChildPay first = three();
        c.due("not TAKEN BACK", first.told(0, 4), Check.NONE);
        first.takeBack(0);
        c.due("TAKEN BACK in WEEK 0", first.told(0, 4), 0);
    }

    private static void knownAsks() {
        c.says("AS KNOWN at a WEEK k (0 .. NOW), for a WEEK: what 0 INCOME, 1 CHILDREN, 2 OTHERS. BAD.");
        for (int now : new int[] {0, 1, 118, 119}) c.range("k at NOW " + now, 0, now, k -> at(now).known(k, 0, INCOME));
        c.range("week", 0, 119, week -> at(5).known(5, week, CHILDREN));
        c.range("what", 0, 2, what -> at(5).known(5, 5, what));
    }
}
