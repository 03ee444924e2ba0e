/** The pays of Terms 4 and promises 16 to 27 and 32: each sentence that names an edge, with a test of its own. */
public final class PayEdgesTest {
    private static final Check c = new Check();
    private static final int LOW = 0, HIGH = 1;

    public static void main(String[] args) {
        hundredLines();
        markOfAPay();
        weeksUpToK();
        paysUpToK();
        paysInOrder();
        leftOfAWeek();
        over();
        interestFromTheFourthOn();
        interestByPaysUpToX();
        interestAsKnownAtK();
        interestCutForEach();
        greatestNumbers();
        forgiven();
        lineAsks();
        marksAsks();
        paidAsks();
        owedAsks();
        overAsks();
        leftAsks();
        oldestAsks();
        payerAsks();
        interestAsks();
        forgiveAsks();
        rateAsks();
        weeksAsks();
        countAsks();
        counts();
        lastCall();
        c.end();
    }

    private static ChildPay at(int now) {
        ChildPay x = new ChildPay();
        if (now > 60) x.weeks(60);
        if (now > 0) x.weeks(now > 60 ? now - 60 : now);
        return x;
    }

    /** So many coins a WEEK, less 10 hundredths a NIGHT, from WEEK 0 on, AS KNOWN from WEEK 0 on. */
    private static ChildPay coins(int aWeek, int now) {
        ChildPay x = new ChildPay();
        Check.law(x, "take 10 night 10", 0);
        x.change(1, aWeek * 10, 0);
        x.change(2, 1, 0);
        if (now > 60) x.weeks(60);
        if (now > 0) x.weeks(now > 60 ? now - 60 : now);
        return x;
    }

    private static void hundredLines() {
        c.says("LINES of the bank, 100 at most, numbered from 0 as they come");
        ChildPay x = at(119);
        for (int i = 0; i < 100; i++) c.due("LINE " + i, x.line(i, 1, i % 10), i);
        c.due("one more", x.line(0, 1, 0), Check.FULL);
        c.due("100 of them", x.count(3), 100);
        c.due("the last one is there", x.paid(99, 1), 1);
        c.due("ten PAYS", x.over(LOW, 119), 10);
        c.says("a WEEK (not behind NOW), coins (1 .. 1000000), a MARK (0 .. 9).");
        for (int now : new int[] {0, 1, 118, 119}) c.range("week at NOW " + now, 0, now, week -> at(now).line(week, 1, 0));
        c.range("coins", 1, 1000000, many -> at(5).line(0, many, 0));
        c.range("mark", 0, 9, mark -> at(5).line(0, 1, mark));
        c.due("the most coins", one(1000000).paid(0, 0), 1000000);
        c.due("the fewest coins", one(1).paid(0, 0), 1);
    }

    private static ChildPay one(int many) {
        ChildPay x = new ChildPay();
        x.line(0, many, 0);
        return x;
    }

    private static void markOfAPay() {
        c.says("It is a PAY if its MARK is one of those told as PAYS (a set; MARK 0 alone at first), else a GIFT.");
        ChildPay x = new ChildPay();
        for (int mark = 0; mark < 10; mark++) x.line(0, 1 << mark, mark);
        c.due("PAYS at first", x.paid(0, 0), 1);
        c.due("GIFTS at first", x.paid(0, 1), 1022);
        for (int mark = 0; mark < 10; mark++) {
            x.marks(1 << mark);
            c.due("PAYS by MARK " + mark, x.paid(0, 0), 1 << mark);
            c.due("GIFTS without MARK " + mark, x.paid(0, 1), 1023 - (1 << mark));
            c.due("OVER by MARK " + mark, x.over(LOW, 0), 1 << mark);
        }
        x.marks(0);
        c.due("no PAYS by the empty set", x.paid(0, 0), 0);
        c.due("all GIFTS by the empty set", x.paid(0, 1), 1023);
        x.marks(1023);
        c.due("all PAYS by the full set", x.paid(0, 0), 1023);
        c.due("no GIFTS by the full set", x.paid(0, 1), 0);
    }

    private static void weeksUpToK() {
        c.says("LOWS (HIGHS) of WEEKS 0 .. k");
        ChildPay x = coins(100, 119);
        for (int k : new int[] {0, 1, 59, 118, 119}) {
            c.due("LOWS up to " + k, x.owed(LOW, k), 100 * (k + 1));
            c.due("HIGHS up to " + k, x.owed(HIGH, k), 100 * (k + 1));
        }
        x.sheet(0, 120);
        x.sheet(1, 120);
        x.mark(0, 0, 1);
        x.mark(0, 119, 3);
        c.due("LOWS with quarrels at both ends", x.owed(LOW, 119), 12000 - 10 - 30);
        c.due("HIGHS with quarrels at both ends", x.owed(HIGH, 119), 12000);
        c.due("LOWS up to 118", x.owed(LOW, 118), 11900 - 10);
    }

    private static void paysUpToK() {
        c.says("paid by all PAYS of WEEKS up to k");
        ChildPay x = coins(100, 4);
        x.line(2, 40, 0);
        x.line(2, 7, 1);
        int[] want = {100, 200, 260, 360, 460};
        for (int k = 0; k <= 4; k++) c.due("OWED at " + k, x.owed(LOW, k), want[k]);
        x.line(0, 30, 0);
        for (int k = 0; k <= 4; k++) c.due("a LINE of an earlier WEEK counts at " + k, x.owed(HIGH, k), want[k] - 30);
        x.line(4, 1, 0);
        c.due("a LINE of NOW", x.owed(LOW, 4), 429);
        c.due("not ahead of it", x.owed(LOW, 3), 330);
    }

    private static void paysInOrder() {
        c.says("(PAYS by WEEKS, then numbers), the oldest WEEK first.");
        ChildPay x = coins(100, 3);
        x.line(3, 100, 0);
        x.line(1, 50, 0);
        x.line(1, 50, 0);
        x.line(0, 100, 0);
        c.due("WEEK 0 by the LINE of WEEK 0", x.payer(0, LOW), 3);
        c.due("WEEK 1 by the second LINE of WEEK 1", x.payer(1, LOW), 2);
        c.due("WEEK 2 by the LINE of WEEK 3", x.payer(2, LOW), 0);
        c.due("WEEK 3 not yet", x.payer(3, LOW), Check.NONE);
        c.due("the oldest is paid", x.left(0, LOW, 3), 0);
        c.due("the newest is not", x.left(3, LOW, 3), 100);
    }

    private static void leftOfAWeek() {
        c.says("LEFT of a WEEK is what is not paid of it then.");
        for (int paid : new int[] {1, 99, 100, 101, 200, 299, 300, 301}) {
            ChildPay x = coins(100, 2);
            x.line(0, paid, 0);
            for (int week = 0; week <= 2; week++) {
                int want = Math.max(0, Math.min(100, 100 * (week + 1) - paid));
                c.due("LEFT of " + week + " with " + paid, x.left(week, HIGH, 2), want);
            }
        }
        ChildPay x = coins(100, 2);
        x.line(2, 100, 0);
        c.due("then: at 1", x.left(0, LOW, 1), 100);
        c.due("then: at 2", x.left(0, LOW, 2), 0);
    }

    private static void over() {
        c.says("OVER: what is paid more than all of them.");
        for (int paid : new int[] {1, 299, 300, 301, 1000000}) {
            ChildPay x = coins(100, 2);
            x.line(1, paid, 0);
            c.due("OVER with " + paid, x.over(LOW, 2), Math.max(0, paid - 300));
            c.due("OVER at 1 with " + paid, x.over(LOW, 1), Math.max(0, paid - 200));
            c.due("OVER at 0 with " + paid, x.over(LOW, 0), 0);
            c.due("OWED with " + paid, x.owed(LOW, 2), Math.max(0, 300 - paid));
        }
        c.due("nothing is due", one(5).over(HIGH, 0), 5);
    }

    private static void interestFromTheFourthOn() {
        c.says("for each WEEK w up to k, and each WEEK x from w and 4 on, up to k");
        ChildPay x = coins(100, 119);
        x.rate(100);
        int want = 0;
        for (int k = 0; k <= 119; k++) {
            want += Math.max(0, k - 3);
            c.due("at " + k, x.interest(k % 2, k), want);
        }
    }

    private static void interestByPaysUpToX() {
        c.says("of what is LEFT of w by PAYS of WEEKS up to x alone");
        int[] want = {0, 0, 0, 0, 0, 1, 2};
        for (int week = 0; week <= 6; week++) {
            ChildPay x = coins(100, 6);
            x.forgive(1, 1);
            x.forgive(2, 1);
            x.rate(100);
            x.line(week, 100, 0);
            c.due("WEEK 0 paid in " + week, x.interest(LOW, 6), want[week]);
            x.marks(2);
            c.due("a GIFT in " + week, x.interest(LOW, 6), 3);
        }
        ChildPay some = coins(100, 5);
        some.rate(500);
        some.line(5, 120, 0);
        c.due("at 4 all of WEEK 0, at 5 80 of WEEK 1", some.interest(HIGH, 5), 5 + 0 + 4);
    }

    private static void interestAsKnownAtK() {
        c.says("(LOWS, HIGHS as KNOWN at k), cut for each.");
        ChildPay x = coins(100, 5);
        x.rate(100);
        x.change(1, 5000, 0);
        c.due("known at 4", x.interest(LOW, 4), 1);
        c.due("known at 5, also for what was LEFT at 4", x.interest(LOW, 5), 5 + 5 + 5);
        x.weeks(1);
        x.takeBack(2);
        c.due("known at 6", x.interest(LOW, 6), 6);
        c.due("known at 5 still", x.interest(LOW, 5), 15);
        ChildPay y = coins(100, 4);
        y.rate(100);
        y.sheet(0, 1);
        y.sheet(1, 1);
        y.mark(1, 0, 1);
        c.due("LOW: 90", y.interest(LOW, 4), 0);
        c.due("HIGH: 100", y.interest(HIGH, 4), 1);
    }

    private static void interestCutForEach() {
        c.says("RATE (0 .. 500 ten-thousandths; 0 at first)");
        ChildPay x = coins(9999, 4);
        c.due("at first", x.interest(LOW, 4), 0);
        x.rate(1);
        c.due("one of 9999: cut", x.interest(LOW, 4), 0);
        ChildPay y = coins(10000, 4);
        y.rate(1);
        c.due("one of 10000", y.interest(LOW, 4), 1);
        y.rate(500);
        c.due("500 of 10000", y.interest(LOW, 4), 500);
        c.says("(LOWS, HIGHS as KNOWN at k), cut for each.");
        ChildPay z = coins(199, 6);
        z.rate(100);
        c.due("six times 1, not 11", z.interest(LOW, 6), 6);
        ChildPay small = coins(99, 119);
        small.rate(100);
        c.due("nothing, however often", small.interest(HIGH, 119), 0);
    }

    private static void greatestNumbers() {
        c.says("OWED by a SIDE (0 by LOW, 1 by HIGH), AS KNOWN at k: LOWS (HIGHS) of WEEKS 0 .. k, paid by all PAYS of WEEKS up to k");
        ChildPay x = coins(100, 0);
        Check.law(x, "take 60", 0);
        x.change(1, 100000, 0);
        for (int i = 0; i < 3; i++) x.change(2, 1, 0);
        x.weeks(60);
        x.weeks(59);
        x.rate(500);
        c.due("the most that can be OWED", x.owed(HIGH, 119), 120 * 120000);
        c.due("the most INTEREST", x.interest(HIGH, 119), 6000 * (116 * 117 / 2));
        for (int i = 0; i < 100; i++) x.line(0, 1000000, 0);
        c.due("the most that can be paid", x.paid(0, 0), 100000000);
        c.due("the most that can be OVER", x.over(LOW, 0), 100000000 - 120000);
        c.due("OVER all WEEKS", x.over(LOW, 119), 100000000 - 14400000);
        c.due("the last WEEK is paid by", x.payer(119, LOW), 14);
        c.due("no INTEREST", x.interest(LOW, 119), 0);
    }

    private static void forgiven() {
        c.says("FORGIVEN may a WEEK be: its HIGH and LOW are 0 (SUM and EDGE are as they were).");
        ChildPay x = coins(100, 5);
        x.rate(100);
        x.sheet(0, 1);
        x.sheet(1, 1);
        x.mark(0, 0, 2);
        x.forgive(0, 1);
        for (int k = 0; k <= 5; k++) {
            c.due("LOW at " + k, x.due(0, LOW, k), 0);
            c.due("HIGH at " + k, x.due(0, HIGH, k), 0);
        }
        c.due("the next WEEK", x.due(1, HIGH, 5), 100);
        c.due("SUM", x.sum(0, 2, 5), 80);
        c.due("EDGE", x.edge(0, 0), 10);
        c.due("NIGHTS", x.nights(0, 1), 2);
        c.due("quarrel", x.nights(0, 2), 1);
        c.due("unlike ends", x.count(6), 1);
        c.due("LEFT", x.left(0, HIGH, 5), 0);
        c.due("OWED", x.owed(HIGH, 5), 500);
        c.due("oldest", x.oldest(HIGH, 5), 1);
        c.due("INTEREST", x.interest(HIGH, 5), 1);
        x.line(5, 100, 0);
        c.due("payer", x.payer(0, HIGH), Check.NONE);
        c.due("payer of the next", x.payer(1, HIGH), 0);
        x.forgive(0, 0);
        c.due("not FORGIVEN: HIGH", x.due(0, HIGH, 5), 100);
        c.due("not FORGIVEN: LOW", x.due(0, LOW, 5), 80);
    }

    private static void lineAsks() {
        c.says("A LINE: its number. BAD: week (0 .. NOW), coins, mark; FULL.");
        ChildPay x = at(3);
        c.due("the first", x.line(3, 1, 9), 0);
        c.due("a refused one takes no number", x.line(4, 1, 9), Check.BAD);
        c.due("the second, of an earlier WEEK", x.line(0, 1000000, 0), 1);
        c.due("count", x.count(3), 2);
    }

    private static void marksAsks() {
        c.says("The MARKS of PAYS become a set (bits 0 .. 9): what it was. BAD.");
        c.range("set", 0, 1023, set -> new ChildPay().marks(set));
        ChildPay x = new ChildPay();
        c.due("at first", x.marks(1023), 1);
        c.due("bit 10", x.marks(1024), Check.BAD);
        c.due("all bits and one more", x.marks(2047), Check.BAD);
        c.due("the full set", x.marks(0), 1023);
        c.due("the empty set", x.marks(512), 0);
        c.due("bit 9", x.marks(1), 512);
    }

    private static void paidAsks() {
        c.says("Coins of PAYS (what 0), of GIFTS (1) in a WEEK. BAD.");
        c.range("week", 0, 119, week -> at(5).paid(week, 0));
        c.range("what", 0, 1, what -> at(5).paid(0, what));
        ChildPay x = at(119);
        x.line(118, 1, 0);
        x.line(119, 2, 0);
        x.line(119, 4, 9);
        x.line(119, 8, 0);
        c.due("PAYS of 119", x.paid(119, 0), 10);
        c.due("GIFTS of 119", x.paid(119, 1), 4);
        c.due("PAYS of 118", x.paid(118, 0), 1);
        c.due("GIFTS of 118", x.paid(118, 1), 0);
    }

    private static void owedAsks() {
        c.says("OWED by a SIDE, AS KNOWN at k (0 .. NOW, here and below): all that is LEFT of WEEKS 0 .. k. BAD.");
        c.range("side", 0, 1, side -> coins(100, 5).owed(side, 5));
        for (int now : new int[] {0, 5, 119}) c.range("k at NOW " + now, 0, now, k -> coins(100, now).owed(LOW, k));
        ChildPay x = coins(100, 5);
        x.line(3, 250, 0);
        int all = 0;
        for (int week = 0; week <= 5; week++) all += x.left(week, LOW, 5);
        c.due("all that is LEFT", x.owed(LOW, 5), all);
        c.due("350", all, 350);
        c.due("without a LAW", at(5).owed(HIGH, 5), 0);
    }

    private static void overAsks() {
        c.says("`int over(int side, int k)`: OVER. BAD.");
        c.range("side", 0, 1, side -> coins(100, 5).over(side, 5));
        for (int now : new int[] {0, 5, 119}) c.range("k at NOW " + now, 0, now, k -> coins(100, now).over(HIGH, k));
    }

    private static void leftAsks() {
        c.says("LEFT of a WEEK (0 .. k). BAD.");
        for (int k : new int[] {0, 3, 5}) c.range("week at k " + k, 0, k, week -> coins(100, 5).left(week, LOW, k));
        c.range("side", 0, 1, side -> coins(100, 5).left(0, side, 5));
        for (int now : new int[] {0, 5, 119}) c.range("k at NOW " + now, 0, now, k -> coins(100, now).left(0, HIGH, k));
        c.due("week above a k that is none", coins(100, 5).left(6, LOW, 6), Check.BAD);
    }

    private static void oldestAsks() {
        c.says("The first WEEK of which something is LEFT; NONE. BAD.");
        c.range("side", 0, 1, side -> coins(100, 5).oldest(side, 5));
        for (int now : new int[] {0, 5, 119}) c.range("k at NOW " + now, 0, now, k -> coins(100, now).oldest(LOW, k));
        ChildPay x = coins(100, 2);
        c.due("WEEK 0", x.oldest(LOW, 2), 0);
        x.line(0, 99, 0);
        c.due("one coin of WEEK 0", x.oldest(LOW, 2), 0);
        x.line(0, 1, 0);
        c.due("WEEK 1", x.oldest(LOW, 2), 1);
        c.due("NONE at 0", x.oldest(LOW, 0), Check.NONE);
        x.line(0, 199, 0);
        c.due("one coin of WEEK k", x.oldest(LOW, 2), 2);
        x.line(0, 1, 0);
        c.due("NONE", x.oldest(LOW, 2), Check.NONE);
        c.due("NONE without a LAW", at(5).oldest(HIGH, 5), Check.NONE);
        ChildPay y = coins(100, 2);
        y.forgive(0, 1);
        c.due("what is FORGIVEN is not LEFT", y.oldest(HIGH, 2), 1);
    }

    private static void payerAsks() {
        c.says("The LINE that paid the last coin of a WEEK (0 .. NOW) by a SIDE, AS KNOWN at NOW;");
        for (int now : new int[] {0, 5, 119}) c.range("week at NOW " + now, 0, now, week -> coins(100, now).payer(week, LOW));
        c.range("side", 0, 1, side -> coins(100, 5).payer(0, side));
        ChildPay x = coins(100, 1);
        x.line(1, 99, 0);
        x.line(1, 1, 0);
        x.line(1, 1, 0);
        c.due("the last coin, not the next one", x.payer(0, LOW), 1);
        x.change(1, 1010, 0);
        c.due("AS KNOWN at NOW", x.payer(0, LOW), 2);
        x.line(0, 1, 0);
        c.due("an earlier WEEK ahead", x.payer(0, LOW), 1);
        c.says("NONE: something is LEFT, or its LOW (HIGH) is 0. BAD.");
        ChildPay y = coins(100, 1);
        y.sheet(0, 1);
        y.sheet(1, 1);
        y.mark(0, 0, 1);
        y.line(0, 90, 0);
        c.due("by LOW all is paid", y.payer(0, LOW), 0);
        c.due("by HIGH something is LEFT", y.payer(0, HIGH), Check.NONE);
        y.line(0, 9, 0);
        c.due("one coin is LEFT", y.payer(0, HIGH), Check.NONE);
        y.line(0, 1, 0);
        c.due("none is LEFT", y.payer(0, HIGH), 2);
        y.forgive(0, 1);
        c.due("HIGH is 0", y.payer(0, HIGH), Check.NONE);
        c.due("LOW is 0", y.payer(0, LOW), Check.NONE);
        c.due("without a LAW", one(5).payer(0, LOW), Check.NONE);
    }

    private static void interestAsks() {
        c.says("INTEREST of a SIDE at k. BAD.");
        c.range("side", 0, 1, side -> coins(100, 5).interest(side, 5));
        for (int now : new int[] {0, 5, 119}) c.range("k at NOW " + now, 0, now, k -> coins(100, now).interest(LOW, k));
    }

    private static void forgiveAsks() {
        c.says("A WEEK is FORGIVEN (on 1) or not (0): what it was. BAD.");
        c.range("week", 0, 119, week -> new ChildPay().forgive(week, 1));
        c.range("on", 0, 1, on -> new ChildPay().forgive(0, on));
        for (int week : new int[] {0, 119}) {
            ChildPay x = new ChildPay();
            int[][] row = {{0, 0}, {1, 0}, {1, 1}, {0, 1}, {0, 0}};
            for (int[] r : row) c.due("forgive(" + week + ", " + r[0] + ")", x.forgive(week, r[0]), r[1]);
        }
    }

    private static void rateAsks() {
        c.says("RATE becomes v: what it was. BAD.");
        c.range("v", 0, 500, v -> new ChildPay().rate(v));
        ChildPay x = new ChildPay();
        int[][] row = {{500, 0}, {501, Check.BAD}, {-1, Check.BAD}, {1, 500}, {0, 1}, {0, 0}};
        for (int[] r : row) c.due("rate(" + r[0] + ")", x.rate(r[0]), r[1]);
    }

    private static void weeksAsks() {
        c.says("n (1 .. 60) WEEKS go: NOW. BAD: also if it would be above 119.");
        c.range("n", 1, 60, n -> new ChildPay().weeks(n));
        c.range("n at NOW 59", 1, 60, n -> at(59).weeks(n));
        c.range("n at NOW 60", 1, 59, n -> at(60).weeks(n));
        c.range("n at NOW 118", 1, 1, n -> at(118).weeks(n));
        ChildPay x = at(119);
        for (int n : new int[] {0, 1, 60, Integer.MAX_VALUE, Integer.MIN_VALUE}) c.due("n " + n + " at NOW 119", x.weeks(n), Check.BAD);
        c.due("NOW", x.count(4), 119);
        ChildPay y = new ChildPay();
        int now = 0;
        for (int n = 1; now + n <= 119; n++) {
            now += n;
            c.due("NOW", y.weeks(n), now);
            c.due("NOW by count", y.count(4), now);
        }
    }

    private static void countAsks() {
        c.says("How many: 0 CHANGES, 1 of these not TAKEN BACK, 2 LAWS, 3 LINES, 4 NOW, 5 WEEKS FORGIVEN, "
            + "6 WEEKS 0 .. NOW whose ends are unlike, 7 bytes of THE TAPE. BAD.");
        c.range("what", 0, 7, what -> new ChildPay().count(what));
        ChildPay x = at(2);
        for (int i = 0; i < 6; i++) x.change(0, 1, 0);
        for (int i = 0; i < 2; i++) x.takeBack(i);
        for (int i = 0; i < 3; i++) Check.law(x, "take 1", 0);
        for (int i = 0; i < 5; i++) x.line(0, 1, i);
        for (int i = 0; i < 7; i++) x.forgive(i, 1);
        x.sheet(0, 120);
        x.sheet(1, 120);
        x.mark(0, 0, 1);
        x.feed(0, 0, 0);
        x.trim(9);
        int[] want = {6, 4, 3, 5, 2, 7, 1, 9};
        for (int what = 0; what < 8; what++) c.due("what " + what, x.count(what), want[what]);
    }

    private static void counts() {
        c.says("1 of these not TAKEN BACK");
        ChildPay x = new ChildPay();
        for (int i = 0; i < 80; i++) x.change(2, 1, 0);
        c.due("all", x.count(1), 80);
        for (int i = 0; i < 80; i++) x.takeBack(i);
        c.due("none", x.count(1), 0);
        c.says("5 WEEKS FORGIVEN");
        for (int week = 0; week < 120; week++) x.forgive(week, 1);
        c.due("all, also those to come", x.count(5), 120);
        x.forgive(119, 0);
        c.due("all but one", x.count(5), 119);
        c.says("6 WEEKS 0 .. NOW whose ends are unlike");
        ChildPay y = new ChildPay();
        y.sheet(0, 120);
        y.sheet(1, 120);
        for (int week = 0; week < 120; week++) y.mark(0, week, 1 + week % 7);
        c.due("WEEK 0 alone", y.count(6), 1);
        y.weeks(1);
        c.due("WEEK NOW too", y.count(6), 2);
        y.weeks(58);
        y.weeks(60);
        c.due("all", y.count(6), 120);
        y.school(0, 3);
        c.due("the SCHOOL tells WEEK 0", y.count(6), 119);
        y.mark(0, 119, 8);
        c.due("DIARY 0 tells nothing of WEEK 119", y.count(6), 118);
        y.lose(1);
        c.due("one DIARY alone", y.count(6), 0);
    }

    private static void lastCall() {
        c.says("An object is used for at most 512 calls after it has been made");
        ChildPay x = new ChildPay();
        for (int i = 0; i < 511; i++) x.forgive(i % 120, 1);
        c.due("the 512th call", x.count(5), 120);
    }
}
