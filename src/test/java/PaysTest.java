/** Promises 16 to 27 and 32. */
public final class PaysTest {
    private static final Check c = new Check();

    public static void main(String[] args) {
        lines();
        marks();
        oldestFirst();
        paysUpToK();
        payers();
        quarrels();
        lateChanges();
        interest();
        greatestInterest();
        forgiven();
        rates();
        weeks();
        asks();
        counts();
        c.end();
    }

    /** 100 coins a week from WEEK 0 on. */
    private static ChildPay hundredAWeek() {
        ChildPay x = new ChildPay();
        Check.law(x, "take 10 night 10", 0);
        x.change(1, 1000, 0);
        x.change(2, 1, 0);
        return x;
    }

    private static void lines() {
        ChildPay x = new ChildPay();
        x.weeks(2);
        int[][] bad = {{-1, 1, 0}, {3, 1, 0}, {0, 0, 0}, {0, -1, 0}, {0, 1000001, 0}, {0, 1, -1}, {0, 1, 10}};
        for (int[] b : bad) c.due("line " + java.util.Arrays.toString(b), x.line(b[0], b[1], b[2]), Check.BAD);
        c.due("line at NOW", x.line(2, 1, 9), 0);
        c.due("line of most coins", x.line(0, 1000000, 0), 1);
        for (int i = 2; i < 100; i++) c.due("line " + i, x.line(1, 1000000, 0), i);
        c.due("line BAD ahead of FULL", x.line(3, 1, 0), Check.BAD);
        c.due("line FULL", x.line(2, 1, 0), Check.FULL);
        c.due("count", x.count(3), 100);
        c.due("paid", x.paid(1, 0), 98000000);
        c.due("over", x.over(0, 2), 99000000);
        ChildPay small = hundredAWeek();
        for (int i = 0; i < 100; i++) small.line(0, 1, 0);
        c.due("100 lines pay 100 coins", small.payer(0, 0), 99);
        small.marks(2);
        c.due("100 gifts pay none", small.payer(0, 0), Check.NONE);
    }

    private static void marks() {
        ChildPay x = new ChildPay();
        for (int mark = 0; mark < 10; mark++) x.line(0, 1 << mark, mark);
        c.due("paid by mark 0", x.paid(0, 0), 1);
        c.due("gifts", x.paid(0, 1), 1022);
        for (int set = 0; set < 1024; set = set * 2 + 1) {
            x.marks(set);
            c.due("paid by a set", x.paid(0, 0), set);
            c.due("gifts by a set", x.paid(0, 1), 1023 - set);
            c.due("over by a set", x.over(0, 0), set);
        }
        c.due("marks(512)", x.marks(512), 1023);
        c.due("marks(1024)", x.marks(1024), Check.BAD);
        c.due("marks(-1)", x.marks(-1), Check.BAD);
        c.due("marks as they were", x.marks(0), 512);
        c.due("no pays", x.paid(0, 0), 0);
        c.due("another week", x.paid(119, 1), 0);
    }

    private static void oldestFirst() {
        ChildPay x = hundredAWeek();
        c.due("week 0 is due at once", x.owed(0, 0), 100);
        x.weeks(3);
        c.due("owed", x.owed(0, 3), 400);
        c.due("oldest", x.oldest(0, 3), 0);
        x.line(3, 150, 0);
        c.due("owed", x.owed(0, 3), 250);
        int[] want = {0, 50, 100, 100};
        for (int w = 0; w < 4; w++) c.due("left " + w, x.left(w, 0, 3), want[w]);
        c.due("oldest", x.oldest(0, 3), 1);
        c.due("over", x.over(0, 3), 0);
        x.line(2, 249, 0);
        c.due("one coin is left", x.oldest(0, 3), 3);
        c.due("one coin is left", x.owed(0, 3), 1);
        x.marks(2);
        x.line(3, 150, 1);
        x.line(1, 250, 1);
        c.due("all is paid", x.owed(0, 3), 0);
        c.due("no oldest", x.oldest(0, 3), Check.NONE);
        c.due("just", x.over(0, 3), 0);
        x.line(0, 1, 1);
        c.due("one over", x.over(0, 3), 1);
        c.due("nothing left", x.left(3, 0, 3), 0);
        x.weeks(1);
        c.due("over pays for the next", x.left(4, 0, 4), 99);
        c.due("over no more", x.over(0, 4), 0);
    }

    private static void paysUpToK() {
        ChildPay x = hundredAWeek();
        x.weeks(3);
        x.line(2, 1000, 0);
        x.line(1, 30, 0);
        c.due("at 0", x.owed(1, 0), 100);
        c.due("at 1", x.owed(1, 1), 170);
        c.due("at 2", x.owed(1, 2), 0);
        c.due("over at 1", x.over(1, 1), 0);
        c.due("over at 2", x.over(1, 2), 730);
        c.due("over at 3", x.over(1, 3), 630);
        c.due("left at 1", x.left(0, 1, 1), 70);
        c.due("oldest at 1", x.oldest(1, 1), 0);
    }

    private static void payers() {
        ChildPay x = hundredAWeek();
        x.weeks(3);
        c.due("not paid", x.payer(0, 0), Check.NONE);
        x.line(2, 100, 0);
        c.due("line 0 pays week 0", x.payer(0, 0), 0);
        c.due("week 1 not yet", x.payer(1, 0), Check.NONE);
        x.line(1, 99, 0);
        c.due("line 1 is ahead by its week, line 0 pays the last coin", x.payer(0, 0), 0);
        x.line(1, 1, 0);
        c.due("line 2 pays the last coin of week 0", x.payer(0, 0), 2);
        c.due("line 0 pays week 1", x.payer(1, 0), 0);
        x.line(0, 5, 3);
        c.due("a gift pays nothing", x.payer(0, 0), 2);
        x.marks(9);
        c.due("now it is a pay: line 1 pays the last coin", x.payer(0, 0), 1);
        x.line(3, 500, 0);
        c.due("one line pays several weeks", x.payer(2, 0), 4);
        c.due("one line pays several weeks", x.payer(3, 0), 4);
        x.forgive(2, 1);
        c.due("nothing is due", x.payer(2, 0), Check.NONE);
        c.due("week NOW", x.payer(3, 1), 4);
        c.due("week above NOW", x.payer(4, 0), Check.BAD);
        c.due("week -1", x.payer(-1, 0), Check.BAD);
        c.due("side 2", x.payer(0, 2), Check.BAD);
        c.due("side -1", x.payer(0, -1), Check.BAD);
    }

    private static void quarrels() {
        ChildPay x = hundredAWeek();
        x.weeks(1);
        x.sheet(0, 1);
        x.sheet(1, 1);
        x.mark(0, 0, 1);
        x.mark(1, 0, 4);
        x.line(0, 60, 0);
        c.due("LOW is paid", x.left(0, 0, 1), 0);
        c.due("HIGH is not", x.left(0, 1, 1), 30);
        c.due("owed LOW", x.owed(0, 1), 100);
        c.due("owed HIGH", x.owed(1, 1), 130);
        c.due("oldest LOW", x.oldest(0, 1), 1);
        c.due("oldest HIGH", x.oldest(1, 1), 0);
        c.due("payer LOW", x.payer(0, 0), 0);
        c.due("payer HIGH", x.payer(0, 1), Check.NONE);
        x.line(1, 135, 0);
        c.due("over LOW", x.over(0, 1), 35);
        c.due("over HIGH", x.over(1, 1), 5);
        x.school(0, 0);
        c.due("the school tells", x.owed(0, 1), 5);
        c.due("the school tells", x.owed(1, 1), 5);
    }

    private static void lateChanges() {
        ChildPay x = hundredAWeek();
        x.weeks(4);
        x.change(3, 500, 1);
        c.due("as known at 3", x.owed(0, 3), 400);
        c.due("as known at 4", x.owed(0, 4), 300);
        c.due("left as known at 3", x.left(2, 0, 3), 100);
        c.due("left as known at 4", x.left(2, 0, 4), 50);
        x.line(4, 150, 0);
        c.due("payer as known at NOW", x.payer(2, 0), Check.NONE);
        c.due("payer as known at NOW", x.payer(1, 0), 0);
        x.weeks(1);
        x.takeBack(2);
        c.due("as known at 4", x.owed(0, 4), 150);
        c.due("as known at 5", x.owed(0, 5), 450);
        c.due("payer as known at NOW", x.payer(1, 0), Check.NONE);
    }

    private static void interest() {
        ChildPay x = hundredAWeek();
        x.weeks(10);
        c.due("rate 0", x.interest(0, 10), 0);
        x.rate(199);
        c.due("at 3", x.interest(0, 3), 0);
        c.due("cut for each", x.interest(0, 4), 1);
        c.due("at 5", x.interest(0, 5), 3);
        x.line(5, 120, 0);
        c.due("what is paid at 5 was left at 4; 80 of week 1: 1", x.interest(0, 5), 2);
        c.due("at 6: 1 + 1 + (80: 1) + 1", x.interest(0, 6), 4);
        x.line(6, 35, 0);
        c.due("45 of week 1: 0", x.interest(0, 6), 3);
        x.rate(99);
        c.due("99 ten-thousandths of 100: 0", x.interest(0, 10), 0);
        x.weeks(1);
        x.change(1, 100000, 0);
        c.due("as known at 10", x.interest(0, 10), 0);
        c.that("as known at 11", x.interest(0, 11) > 0);
    }

    private static void greatestInterest() {
        ChildPay x = hundredAWeek();
        Check.law(x, "take 60", 0);
        x.change(1, 100000, 0);
        for (int i = 0; i < 3; i++) x.change(2, 1, 0);
        x.weeks(60);
        x.weeks(59);
        x.rate(500);
        c.due("oldest of 120", x.oldest(0, 119), 0);
        c.due("owed", x.owed(0, 119), 14400000);
        c.due("interest", x.interest(0, 119), 6000 * 116 * 117 / 2);
        for (int i = 0; i < 15; i++) x.line(119, 1000000, 0);
        c.due("all of 120 are paid", x.oldest(0, 119), Check.NONE);
        c.due("over", x.over(0, 119), 600000);
        c.due("payer of the last", x.payer(119, 0), 14);
    }

    private static void forgiven() {
        ChildPay x = hundredAWeek();
        x.rate(500);
        x.weeks(5);
        x.line(0, 50, 0);
        c.due("interest", x.interest(0, 5), 2 + 2 + 5);
        c.due("forgive", x.forgive(0, 1), 0);
        c.due("forgive", x.forgive(0, 1), 1);
        c.due("owed", x.owed(0, 5), 450);
        c.due("left", x.left(0, 0, 5), 0);
        c.due("the pay goes to week 1", x.left(1, 0, 5), 50);
        c.due("oldest", x.oldest(0, 5), 1);
        c.due("interest", x.interest(0, 5), 2);
        c.due("forgive back", x.forgive(0, 0), 1);
        c.due("forgive back", x.forgive(0, 0), 0);
        c.due("owed", x.owed(0, 5), 550);
        c.due("forgive(119)", x.forgive(119, 1), 0);
        int[][] bad = {{-1, 0}, {120, 0}, {0, -1}, {0, 2}};
        for (int[] b : bad) c.due("forgive", x.forgive(b[0], b[1]), Check.BAD);
        c.due("count", x.count(5), 1);
    }

    private static void rates() {
        ChildPay x = new ChildPay();
        c.due("rate(500)", x.rate(500), 0);
        c.due("rate(501)", x.rate(501), Check.BAD);
        c.due("rate(-1)", x.rate(-1), Check.BAD);
        c.due("rate(0)", x.rate(0), 500);
        c.due("rate(1)", x.rate(1), 0);
    }

    private static void weeks() {
        ChildPay x = new ChildPay();
        for (int far : Check.FAR) c.due("weeks far", x.weeks(far), Check.BAD);
        c.due("weeks(0)", x.weeks(0), Check.BAD);
        c.due("weeks(61)", x.weeks(61), Check.BAD);
        c.due("weeks(60)", x.weeks(60), 60);
        c.due("weeks(60)", x.weeks(60), Check.BAD);
        c.due("weeks(59)", x.weeks(59), 119);
        c.due("weeks(1)", x.weeks(1), Check.BAD);
        c.due("NOW", x.count(4), 119);
    }

    private static void asks() {
        ChildPay x = hundredAWeek();
        x.weeks(3);
        int[][] bad = {{-1, 0}, {2, 0}, {0, -1}, {0, 4}, {1, 120}};
        for (int[] b : bad) {
            String args = b[0] + " " + b[1];
            c.due("owed " + args, x.owed(b[0], b[1]), Check.BAD);
            c.due("over " + args, x.over(b[0], b[1]), Check.BAD);
            c.due("left " + args, x.left(0, b[0], b[1]), Check.BAD);
            c.due("oldest " + args, x.oldest(b[0], b[1]), Check.BAD);
            c.due("interest " + args, x.interest(b[0], b[1]), Check.BAD);
        }
        c.due("left -1", x.left(-1, 0, 3), Check.BAD);
        c.due("left above k", x.left(2, 0, 1), Check.BAD);
        c.due("left k", x.left(1, 0, 1), 100);
        int[][] paids = {{-1, 0}, {120, 0}, {0, -1}, {0, 2}};
        for (int[] p : paids) c.due("paid " + p[0] + " " + p[1], x.paid(p[0], p[1]), Check.BAD);
    }

    private static void counts() {
        ChildPay x = hundredAWeek();
        x.weeks(7);
        x.takeBack(1);
        x.line(7, 1, 5);
        x.line(7, 1, 0);
        x.forgive(3, 1);
        x.forgive(0, 1);
        x.feed(0, 0, 0);
        x.trim(11);
        x.sheet(0, 120);
        x.sheet(1, 120);
        x.mark(0, 7, 1);
        x.mark(1, 0, 1);
        x.mark(1, 8, 1);
        int[] want = {2, 1, 1, 2, 7, 2, 2, 11};
        for (int what = 0; what < want.length; what++) c.due("count " + what, x.count(what), want[what]);
        c.due("count -1", x.count(-1), Check.BAD);
        c.due("count 8", x.count(8), Check.BAD);
        for (int far : Check.FAR) c.due("count far", x.count(far), Check.BAD);
    }
}
