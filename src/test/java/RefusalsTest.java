import java.util.ArrayList;
import java.util.Arrays;
import java.util.List;
import java.util.function.Consumer;
import java.util.function.ToIntFunction;

/** A refused call: which answer stands first, and that nothing is changed by it. Two objects that are used alike tell. */
public final class RefusalsTest {
    private static final Check c = new Check();
    private static final int WEEKS_ASKED = 5;

    public static void main(String[] args) {
        none();
        theFirstStands();
        changesNothing();
        fullChangesNothing();
        theTapeWhereTold();
        questionsChangeNothing();
        c.end();
    }

    /** Something of everything: CHANGES, one TAKEN BACK, LAWS, LINES, quarrels, FORGIVEN, RATE, and a text on THE TAPE. */
    private static ChildPay used() {
        ChildPay x = new ChildPay();
        Check.law(x, "take 10 night 9", 0);
        x.change(1, 1234, 0);
        x.change(2, 1, 0);
        x.change(0, 2, 1);
        x.weeks(3);
        x.change(3, 2345, 2);
        x.change(2, 1, 4);
        x.weeks(3);
        x.takeBack(2);
        Check.law(x, "take 12 over 500 take 20 other 3", 3);
        x.sheet(0, 6);
        x.sheet(1, 4);
        for (int place = 0; place < 6; place++) x.mark(0, place, place);
        for (int place = 0; place < 4; place++) x.mark(1, place, 5 - place);
        x.school(1, 3);
        x.line(2, 150, 0);
        x.line(5, 77, 4);
        x.line(0, 33, 0);
        x.forgive(4, 1);
        x.rate(333);
        x.marks(17);
        Check.tape(x, "take 7 least 9");
        return x;
    }

    /** As used, but with no room for a CHANGE, a LAW, a LINE or twelve bytes. */
    private static ChildPay full() {
        ChildPay x = used();
        x.trim(0);
        for (int i = 2; i < 8; i++) Check.law(x, "take 9", 100 + i);
        for (int i = 5; i < 80; i++) x.change(1, i, 60);
        for (int i = 3; i < 100; i++) x.line(i % 7, i, i % 10);
        Check.tape(x, "take 7 least 9" + " ".repeat(50));
        return x;
    }

    /** Whatever an object answers of itself; it is not used any further. */
    private static int[] allOf(ChildPay x) {
        List<Integer> row = new ArrayList<>();
        for (int what = 0; what < 8; what++) row.add(x.count(what));
        int now = x.count(4);
        for (int i = 0; i < 6; i++) {
            for (int what = 1; what < 5; what += 3) row.add(x.told(i, what));
        }
        for (int week = 0; week <= WEEKS_ASKED; week++) {
            for (int what = 0; what < 3; what++) row.add(x.known(now, week, what));
            for (int what = 0; what < 2; what++) row.add(x.nights(week, what));
            for (int side = 0; side < 2; side++) row.add(x.due(week, side, now));
            row.add(x.sum(week, 1, 0));
            row.add(x.inForce(week));
            row.add(x.paid(week, 0));
            row.add(x.paid(week, 1));
            row.add(x.payer(week, 1));
        }
        for (int side = 0; side < 2; side++) {
            row.add(x.owed(side, now));
            row.add(x.interest(side, now));
        }
        allByActs(x, row);
        return row.stream().mapToInt(Integer::intValue).toArray();
    }

    /** What is told by acts alone: an act answers what was there ahead of it. */
    private static void allByActs(ChildPay x, List<Integer> row) {
        row.add(x.law(0));
        row.add(x.sum(0, 0, 0));
        row.add(x.rate(0));
        row.add(x.marks(0));
        for (int week = 0; week <= WEEKS_ASKED; week++) {
            row.add(x.forgive(week, 0));
            row.add(x.school(week, Check.NONE));
        }
        for (int s = 0; s < 2; s++) {
            for (int place = 0; place <= WEEKS_ASKED; place++) row.add(x.mark(s, place, 0));
            row.add(x.lose(s));
        }
        row.add(x.weeks(1));
    }

    private static void refused(String call, ToIntFunction<ChildPay> ask, int want) {
        ChildPay x = used();
        c.due(call, ask.applyAsInt(x), want);
        c.that(call + " changes nothing", Arrays.equals(allOf(x), allOf(used())));
    }

    private static void none() {
        c.says("NONE: there is none.");
        ChildPay x = new ChildPay();
        x.change(0, 0, 0);
        c.due("no WEEK of taking back", x.told(0, 4), Check.NONE);
        c.due("no NIGHTS by the SCHOOL", x.school(0, Check.NONE), Check.NONE);
        c.due("no LAW", x.inForce(0), Check.NONE);
        c.due("no WEEK with something LEFT", x.oldest(0, 0), Check.NONE);
        c.due("no LINE that paid", x.payer(0, 0), Check.NONE);
    }

    private static void theFirstStands() {
        c.says("A call that is refused answers one of BAD, NO, FULL, or a FINDING, of several the one that stands first with it");
        ChildPay x = full();
        c.due("change: BAD, FULL", x.change(4, 0, 0), Check.BAD);
        c.due("change: BAD by v, FULL", x.change(0, 6, 0), Check.BAD);
        c.due("change: BAD by from, FULL", x.change(0, 0, 120), Check.BAD);
        c.due("change: FULL", x.change(0, 0, 0), Check.FULL);
        c.due("line: BAD by week, FULL", x.line(7, 1, 0), Check.BAD);
        c.due("line: BAD by coins, FULL", x.line(0, 0, 0), Check.BAD);
        c.due("line: BAD by mark, FULL", x.line(0, 1, 10), Check.BAD);
        c.due("line: FULL", x.line(0, 1, 0), Check.FULL);
        c.due("feed: FULL", x.feed(0, 0, 0), Check.FULL);
        c.due("law: BAD, FULL", x.law(120), Check.BAD);
        c.due("law: BAD, a fault, FULL", x.law(120), Check.BAD);
        c.due("law: a fault, FULL", x.law(0), -100);
        c.due("law: FULL", Check.law(x, "take 1", 0), Check.FULL);
        ChildPay y = new ChildPay();
        y.sheet(0, 2);
        c.due("sheet: BAD, SIZE", y.sheet(2, -1), Check.BAD);
        c.due("sheet: SIZE", y.sheet(1, -1), Check.SIZE);
        c.due("mark: BAD, INDEX", y.mark(-1, -1, 0), Check.BAD);
        c.due("mark: NOTHING, INDEX", y.mark(1, -1, 0), Check.NOTHING);
        c.due("mark: INDEX", y.mark(0, -1, 0), Check.INDEX);
        c.due("copy: BAD, NOTHING, INDEX", y.copy(1, -1, 2, -1, -1), Check.BAD);
        c.due("copy: BAD, NOTHING, INDEX", y.copy(2, -1, 1, -1, -1), Check.BAD);
        c.due("copy: BAD, INDEX", y.copy(0, -1, 2, -1, -1), Check.BAD);
        c.due("copy: NOTHING, INDEX", y.copy(0, -1, 1, -1, -1), Check.NOTHING);
        c.due("copy: NOTHING, INDEX", y.copy(1, -1, 0, -1, -1), Check.NOTHING);
        c.due("copy: INDEX", y.copy(0, -1, 0, -1, -1), Check.INDEX);
    }

    private static void changesNothing() {
        c.says("and changes nothing (but the tape, where told).");
        refused("change kind", x -> x.change(4, 1, 0), Check.BAD);
        refused("change v of OTHERS", x -> x.change(0, 6, 0), Check.BAD);
        refused("change v of INCOME", x -> x.change(1, 100001, 0), Check.BAD);
        refused("change v of CHILD", x -> x.change(2, 2, 0), Check.BAD);
        refused("change v of TRUE INCOME", x -> x.change(3, -1, 0), Check.BAD);
        refused("change from", x -> x.change(1, 1, 120), Check.BAD);
        refused("takeBack", x -> x.takeBack(5), Check.BAD);
        refused("takeBack again", x -> x.takeBack(2), Check.NO);
        refused("school week", x -> x.school(120, 1), Check.BAD);
        refused("school nights", x -> x.school(1, 8), Check.BAD);
        refused("trim", x -> x.trim(15), Check.BAD);
        refused("trim below 0", x -> x.trim(-1), Check.BAD);
        refused("line week", x -> x.line(7, 1, 0), Check.BAD);
        refused("line coins", x -> x.line(0, 1000001, 0), Check.BAD);
        refused("line mark", x -> x.line(0, 1, 10), Check.BAD);
        refused("marks", x -> x.marks(1024), Check.BAD);
        refused("forgive week", x -> x.forgive(120, 1), Check.BAD);
        refused("forgive on", x -> x.forgive(0, 2), Check.BAD);
        refused("forgive off", x -> x.forgive(4, -1), Check.BAD);
        refused("rate", x -> x.rate(501), Check.BAD);
        refused("weeks 0", x -> x.weeks(0), Check.BAD);
        refused("weeks 61", x -> x.weeks(61), Check.BAD);
        refused("sheet", x -> x.sheet(2, 1), Check.BAD);
        refused("sheet n", x -> x.sheet(0, 121), Check.BAD);
        refused("sheet SIZE", x -> x.sheet(0, -1), Check.SIZE);
        refused("mark sheet", x -> x.mark(2, 0, 7), Check.BAD);
        refused("mark place", x -> x.mark(1, 4, 7), Check.INDEX);
        refused("copy from", x -> x.copy(2, 0, 0, 0, 1), Check.BAD);
        refused("copy to", x -> x.copy(0, 0, 2, 0, 1), Check.BAD);
        refused("copy beyond the first", x -> x.copy(1, 2, 0, 0, 3), Check.INDEX);
        refused("copy beyond the second", x -> x.copy(0, 0, 1, 0, 5), Check.INDEX);
        refused("copy less than none", x -> x.copy(0, 1, 1, 1, -1), Check.INDEX);
        refused("lose", x -> x.lose(2), Check.BAD);
    }

    private static void fullChangesNothing() {
        c.says("and changes nothing (but the tape, where told).");
        int[] plain = allOf(full());
        ChildPay x = full();
        c.due("change", x.change(1, 1, 0), Check.FULL);
        c.due("line", x.line(6, 5, 0), Check.FULL);
        c.due("feed", x.feed(-1, -1, -1), Check.FULL);
        c.that("FULL changes nothing", Arrays.equals(allOf(x), plain));
        ChildPay missing = used();
        missing.lose(1);
        c.due("mark", missing.mark(1, 0, 3), Check.NOTHING);
        c.due("copy from", missing.copy(1, 0, 0, 0, 1), Check.NOTHING);
        c.due("copy to", missing.copy(0, 0, 1, 0, 1), Check.NOTHING);
        c.due("lose", missing.lose(1), Check.NOTHING);
        ChildPay twin = used();
        twin.lose(1);
        c.that("NOTHING changes nothing", Arrays.equals(allOf(missing), allOf(twin)));
    }

    /** The act and the twin's trim(0) must come to the same. */
    private static void usesUp(String call, Consumer<ChildPay> ahead, int from, int want) {
        ChildPay x = used();
        ChildPay twin = used();
        ahead.accept(x);
        ahead.accept(twin);
        c.due(call, x.law(from), want);
        twin.trim(0);
        c.that(call + " uses THE TAPE up and changes nothing else", Arrays.equals(allOf(x), allOf(twin)));
    }

    private static void theTapeWhereTold() {
        c.says("an act that reads it uses it up, whatever it answers)");
        usesUp("law BAD", x -> { }, 120, Check.BAD);
        usesUp("law BAD below 0", x -> { }, -1, Check.BAD);
        usesUp("law with a fault", x -> x.trim(12), 0, -112);
        usesUp("law FULL", x -> {
            x.trim(0);
            for (int i = 2; i < 8; i++) Check.law(x, "take 9", 100 + i);
            Check.tape(x, "take 60 most 3");
        }, 0, Check.FULL);
    }

    private static void questionsChangeNothing() {
        c.says("and changes nothing (but the tape, where told).");
        ChildPay x = used();
        int[] sides = {-1, 0, 1, 2};
        for (int a : sides) {
            for (int b : new int[] {-1, 0, 6, 7}) {
                x.owed(a, b);
                x.over(a, b);
                x.left(b, a, 6);
                x.oldest(a, b);
                x.payer(b, a);
                x.interest(a, b);
                x.due(b, a, 6);
                x.paid(b, a);
                x.edge(b, a);
                x.sum(b, a, 6);
                x.known(b, a, 0);
                x.isOf(b, a);
                x.told(b, a);
                x.nights(b, a);
            }
            x.count(a);
            x.inForce(a);
        }
        c.that("no question changes anything", Arrays.equals(allOf(x), allOf(used())));
    }
}
