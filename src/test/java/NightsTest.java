/** Promises 7, 8 and 28 to 31. */
public final class NightsTest {
    private static final Check c = new Check();

    public static void main(String[] args) {
        school();
        ends();
        sheets();
        marks();
        copies();
        losses();
        c.end();
    }

    private static void school() {
        ChildPay x = new ChildPay();
        c.due("school(119, 7)", x.school(119, 7), Check.NONE);
        c.due("school(119, 0)", x.school(119, 0), 7);
        c.due("school(119, NONE)", x.school(119, Check.NONE), 0);
        c.due("school(119, NONE)", x.school(119, Check.NONE), Check.NONE);
        c.due("school(0, 8)", x.school(0, 8), Check.BAD);
        c.due("school(0, -1)", x.school(0, -1), Check.BAD);
        c.due("school(0, BAD)", x.school(0, Check.BAD), Check.BAD);
        c.due("school(120, NONE)", x.school(120, Check.NONE), Check.BAD);
        c.due("school(-1, 1)", x.school(-1, 1), Check.BAD);
        c.due("refused changes nothing", x.school(0, 1), Check.NONE);
    }

    private static void asEnds(ChildPay x, int week, int lesser, int greater, int quarrel) {
        c.due("nights(" + week + ", 0)", x.nights(week, 0), lesser);
        c.due("nights(" + week + ", 1)", x.nights(week, 1), greater);
        c.due("nights(" + week + ", 2)", x.nights(week, 2), quarrel);
    }

    private static void ends() {
        ChildPay x = new ChildPay();
        asEnds(x, 0, 0, 0, 0);
        x.sheet(0, 120);
        x.sheet(1, 119);
        x.mark(0, 119, 3);
        asEnds(x, 119, 3, 3, 0);
        x.mark(0, 5, 6);
        x.mark(1, 5, 2);
        asEnds(x, 5, 2, 6, 1);
        x.mark(1, 5, 6);
        asEnds(x, 5, 6, 6, 0);
        x.mark(1, 5, 7);
        asEnds(x, 5, 6, 7, 1);
        x.school(5, 0);
        asEnds(x, 5, 0, 0, 0);
        x.school(5, Check.NONE);
        x.mark(0, 5, 8);
        asEnds(x, 5, 7, 7, 0);
        x.mark(0, 5, -1);
        asEnds(x, 5, 7, 7, 0);
        x.mark(0, 5, 256 + 4);
        asEnds(x, 5, 4, 7, 1);
        x.mark(0, 5, 99);
        x.mark(1, 5, -99);
        asEnds(x, 5, 0, 0, 0);
        c.due("count unlike", x.count(6), 0);
        x.mark(1, 3, 1);
        x.mark(1, 4, 1);
        c.due("count unlike up to NOW", x.count(6), 0);
        x.weeks(3);
        c.due("count unlike up to NOW", x.count(6), 1);
        x.weeks(1);
        c.due("count unlike up to NOW", x.count(6), 2);
        c.due("nights week", x.nights(120, 0), Check.BAD);
        c.due("nights week", x.nights(-1, 0), Check.BAD);
        c.due("nights what", x.nights(0, 3), Check.BAD);
        c.due("nights what", x.nights(0, -1), Check.BAD);
    }

    private static void sheets() {
        ChildPay x = new ChildPay();
        c.due("sheet(0, 0)", x.sheet(0, 0), 0);
        c.due("no place", x.mark(0, 0, 0), Check.INDEX);
        c.due("sheet(0, 120)", x.sheet(0, 120), 120);
        c.due("sheet(0, 121)", x.sheet(0, 121), Check.BAD);
        c.due("sheet(0, -1)", x.sheet(0, -1), Check.SIZE);
        c.due("sheet(0, least)", x.sheet(0, Integer.MIN_VALUE), Check.SIZE);
        c.due("sheet BAD ahead of SIZE", x.sheet(2, -1), Check.BAD);
        c.due("sheet(-1, 1)", x.sheet(-1, 1), Check.BAD);
        x.mark(0, 2, 5);
        c.due("refused keeps the sheet", x.sheet(0, -1), Check.SIZE);
        c.due("as it was", x.mark(0, 2, 6), 5);
        c.due("anew", x.sheet(0, 5), 5);
        c.due("all 0", x.mark(0, 2, 6), 0);
        c.due("shorter", x.mark(0, 5, 6), Check.INDEX);
        x.sheet(0, 2);
        x.sheet(0, 5);
        c.due("0 where it had been cut off", x.mark(0, 2, 1), 0);
    }

    private static void marks() {
        ChildPay x = new ChildPay();
        c.due("mark BAD ahead of NOTHING", x.mark(2, 0, 0), Check.BAD);
        c.due("mark(-1)", x.mark(-1, 0, 0), Check.BAD);
        c.due("mark NOTHING ahead of INDEX", x.mark(1, -1, 0), Check.NOTHING);
        x.sheet(1, 3);
        c.due("mark place 3", x.mark(1, 3, 0), Check.INDEX);
        c.due("mark place -1", x.mark(1, -1, 0), Check.INDEX);
        for (int far : Check.FAR) c.due("mark far place", x.mark(1, far, 0), Check.INDEX);
        c.due("mark 127", x.mark(1, 2, 127), 0);
        c.due("mark 128", x.mark(1, 2, 128), 127);
        c.due("mark -129", x.mark(1, 2, -129), -128);
        c.due("mark again", x.mark(1, 2, 0), 127);
    }

    private static ChildPay twoSheets() {
        ChildPay x = new ChildPay();
        x.sheet(0, 5);
        x.sheet(1, 3);
        for (int i = 0; i < 5; i++) x.mark(0, i, i + 1);
        return x;
    }

    private static void hasPlaces(String what, ChildPay x, int s, int... want) {
        for (int i = 0; i < want.length; i++) c.due(what + " place " + i, x.mark(s, i, want[i]), want[i]);
        c.due(what + " end", x.mark(s, want.length, 0), Check.INDEX);
    }

    private static void copies() {
        ChildPay x = twoSheets();
        c.due("copy", x.copy(0, 3, 1, 1, 2), 2);
        hasPlaces("copied", x, 1, 0, 4, 5);
        c.due("copy forward in one", x.copy(0, 0, 0, 1, 4), 4);
        hasPlaces("forward", x, 0, 1, 1, 2, 3, 4);
        x = twoSheets();
        c.due("copy back in one", x.copy(0, 1, 0, 0, 4), 4);
        hasPlaces("back", x, 0, 2, 3, 4, 5, 5);
        c.due("copy none at the ends", x.copy(0, 5, 1, 3, 0), 0);
        int[][] index = {{0, 0, 1, 0, 4}, {0, 3, 1, 0, 3}, {0, -1, 1, 0, 1}, {0, 0, 1, -1, 1}, {0, 0, 1, 3, 1}, {0, 5, 1, 0, 1},
            {0, 6, 1, 0, 0}, {0, 0, 1, 4, 0}, {0, 0, 1, 0, -1}, {0, 1, 1, 1, -1}, {0, 1, 1, 0, Integer.MAX_VALUE},
            {0, Integer.MAX_VALUE, 1, 0, 1}, {0, 0, 1, Integer.MAX_VALUE, Integer.MAX_VALUE}, {0, 0, 1, 0, Integer.MIN_VALUE}};
        for (int[] i : index) {
            c.due("copy " + java.util.Arrays.toString(i), x.copy(i[0], i[1], i[2], i[3], i[4]), Check.INDEX);
        }
        hasPlaces("refused", x, 1, 0, 0, 0);
        c.due("copy from 2", x.copy(2, 0, 0, 0, 1), Check.BAD);
        c.due("copy to 2", x.copy(0, 0, 2, 0, 1), Check.BAD);
        c.due("copy from -1", x.copy(-1, 0, 0, 0, 1), Check.BAD);
        x.lose(0);
        c.due("copy from missing", x.copy(0, 9, 1, 9, 9), Check.NOTHING);
        c.due("copy to missing", x.copy(1, 9, 0, 9, 9), Check.NOTHING);
        c.due("copy BAD ahead of NOTHING", x.copy(0, 0, 2, 0, 1), Check.BAD);
    }

    private static void losses() {
        ChildPay x = twoSheets();
        c.due("lose(0)", x.lose(0), 5);
        c.due("lose(0)", x.lose(0), Check.NOTHING);
        c.due("nights of the other", x.nights(0, 1), 0);
        c.due("lose(-1)", x.lose(-1), Check.BAD);
        c.due("lose(2)", x.lose(2), Check.BAD);
        c.due("lose(1)", x.lose(1), 3);
        x.sheet(1, 0);
        c.due("lose an empty one", x.lose(1), 0);
    }
}
