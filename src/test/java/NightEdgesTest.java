/** Terms 2, the SHEETS and promises 7, 8 and 28 to 31: each sentence that names an edge, with a test of its own. */
public final class NightEdgesTest {
    private static final Check c = new Check();
    private static final int LESSER = 0, GREATER = 1, QUARREL = 2;

    public static void main(String[] args) {
        nightsOfAWeek();
        toldAnew();
        knownAtOnce();
        ends();
        schoolAsks();
        nightsAsks();
        places();
        tellsNothing();
        missingAtFirst();
        findings();
        sheetAsks();
        markAsks();
        copyAsks();
        copyRuns();
        loseAsks();
        c.end();
    }

    /** Two SHEETS of so many places. */
    private static ChildPay sheets(int first, int second) {
        ChildPay x = new ChildPay();
        x.sheet(0, first);
        x.sheet(1, second);
        return x;
    }

    private static void hasEnds(String what, ChildPay x, int week, int lesser, int greater, int quarrel) {
        c.due(what + ", the lesser", x.nights(week, LESSER), lesser);
        c.due(what + ", the greater", x.nights(week, GREATER), greater);
        c.due(what + ", quarrel", x.nights(week, QUARREL), quarrel);
    }

    private static void nightsOfAWeek() {
        c.says("NIGHTS of a WEEK (0 .. 7) with the home that owes");
        for (int v = -2; v < 10; v++) {
            ChildPay x = sheets(1, 0);
            x.mark(0, 0, v);
            boolean tells = v >= 0 && v <= 7;
            hasEnds("DIARY 0 with " + v, x, 0, tells ? v : 0, tells ? v : 0, 0);
            ChildPay y = sheets(0, 1);
            y.mark(1, 0, v);
            hasEnds("DIARY 1 with " + v, y, 0, tells ? v : 0, tells ? v : 0, 0);
            ChildPay z = new ChildPay();
            c.due("SCHOOL with " + v, z.school(0, v), tells ? Check.NONE : Check.BAD);
            hasEnds("SCHOOL with " + v, z, 0, tells ? v : 0, tells ? v : 0, 0);
        }
    }

    private static void toldAnew() {
        c.says("(each may tell them anew;");
        ChildPay x = sheets(1, 1);
        x.mark(0, 0, 3);
        x.mark(1, 0, 3);
        x.mark(0, 0, 1);
        hasEnds("DIARY 0 anew", x, 0, 1, 3, 1);
        x.mark(1, 0, 6);
        hasEnds("DIARY 1 anew", x, 0, 1, 6, 1);
        x.school(0, 4);
        x.school(0, 5);
        hasEnds("SCHOOL anew", x, 0, 5, 5, 0);
    }

    private static void knownAtOnce() {
        c.says("all three are KNOWN at once, of all WEEKS)");
        ChildPay x = sheets(120, 120);
        Check.law(x, "take 10 night 10", 0);
        x.change(1, 1000, 0);
        x.change(2, 1, 0);
        x.weeks(9);
        for (int week : new int[] {0, 9, 10, 119}) {
            x.mark(0, week, 2);
            x.mark(1, week, 5);
            for (int k : new int[] {0, 8, 9}) {
                c.due("LOW of " + week + " at " + k, x.due(week, 0, k), 50);
                c.due("HIGH of " + week + " at " + k, x.due(week, 1, k), 80);
            }
            x.school(week, 7);
            for (int k : new int[] {0, 8, 9}) c.due("by the SCHOOL, " + week + " at " + k, x.due(week, 1, k), 30);
        }
    }

    private static void ends() {
        ChildPay x = sheets(5, 5);
        int[][] told = {{2, 6}, {6, 2}, {4, 4}, {0, 7}, {7, 0}};
        for (int week = 0; week < 5; week++) {
            x.mark(0, week, told[week][0]);
            x.mark(1, week, told[week][1]);
        }
        c.says("if both DIARIES do, the lesser and the greater;");
        int[][] want = {{2, 6, 1}, {2, 6, 1}, {4, 4, 0}, {0, 7, 1}, {0, 7, 1}};
        for (int week = 0; week < 5; week++) hasEnds("WEEK " + week, x, week, want[week][0], want[week][1], want[week][2]);
        c.says("if the SCHOOL tells them, both ends are that;");
        for (int n = 0; n <= 7; n++) {
            x.school(0, n);
            hasEnds("the SCHOOL tells " + n, x, 0, n, n, 0);
            hasEnds("of that WEEK alone", x, 1, 2, 6, 1);
        }
        x.school(0, Check.NONE);
        hasEnds("the SCHOOL tells no more", x, 0, 2, 6, 1);
        c.says("if one does, both that;");
        x.lose(0);
        hasEnds("DIARY 1 alone", x, 0, 6, 6, 0);
        hasEnds("DIARY 1 alone, with 0", x, 4, 0, 0, 0);
        ChildPay y = sheets(1, 0);
        y.mark(0, 0, 3);
        hasEnds("DIARY 0 alone", y, 0, 3, 3, 0);
        c.says("else both 0.");
        x.lose(1);
        hasEnds("none tells", x, 0, 0, 0, 0);
    }

    private static void schoolAsks() {
        c.says("The SCHOOL tells NIGHTS of a WEEK (0 .. 7; NONE: it does not): what it told (NONE). BAD.");
        c.range("week", 0, 119, week -> new ChildPay().school(week, 1));
        c.range("week with NONE", 0, 119, week -> new ChildPay().school(week, Check.NONE));
        c.range("nights", 0, 7, n -> new ChildPay().school(0, n));
        for (int other : new int[] {Check.BAD, Check.NO, Check.FULL, Check.NOTHING, Check.NONE - 1, Check.NONE + 1}) {
            c.due("nights " + other, new ChildPay().school(0, other), Check.BAD);
        }
        ChildPay x = new ChildPay();
        c.due("nothing told", x.school(119, 0), Check.NONE);
        c.due("0 was told", x.school(119, 7), 0);
        c.due("7 was told", x.school(119, Check.NONE), 7);
        c.due("nothing told again", x.school(119, Check.NONE), Check.NONE);
        c.due("nothing told still", x.school(119, 1), Check.NONE);
    }

    private static void nightsAsks() {
        c.says("what 0 the lesser, 1 the greater, 2 whether DIARIES quarrel there, the SCHOOL telling nothing (1, 0). BAD.");
        c.range("week", 0, 119, week -> new ChildPay().nights(week, LESSER));
        c.range("what", 0, 2, what -> new ChildPay().nights(0, what));
        ChildPay x = sheets(120, 120);
        x.mark(0, 119, 1);
        hasEnds("the last WEEK", x, 119, 0, 1, 1);
        x.school(119, 1);
        c.due("the SCHOOL ends the quarrel", x.nights(119, QUARREL), 0);
    }

    private static void places() {
        c.says("SHEETS 0, 1 are rows of bytes with 0 to 120 places");
        c.range("sheet", 0, 1, s -> new ChildPay().sheet(s, 5));
        for (int s = 0; s < 2; s++) {
            ChildPay x = new ChildPay();
            c.due("0 places", x.sheet(s, 0), 0);
            c.due("no first place", x.mark(s, 0, 1), Check.INDEX);
            c.due("120 places", x.sheet(s, 120), 120);
            c.due("the last place", x.mark(s, 119, -128), 0);
            c.due("a byte", x.mark(s, 119, 127), -128);
            c.due("no place behind it", x.mark(s, 120, 1), Check.INDEX);
            c.due("not 121", x.sheet(s, 121), Check.BAD);
        }
    }

    private static void tellsNothing() {
        c.says("NIGHTS of DIARY 0, 1 by WEEKS (one not 0 .. 7, or without a place, tells nothing)");
        for (int s = 0; s < 2; s++) {
            ChildPay x = sheets(3, 3);
            x.mark(s, 2, 6);
            x.mark(1 - s, 2, 4);
            hasEnds("both", x, 2, 4, 6, 1);
            for (int v : new int[] {8, -1, 127, -128}) {
                x.mark(s, 2, v);
                hasEnds(v + " tells nothing", x, 2, 4, 4, 0);
            }
            x.mark(s, 2, 7);
            hasEnds("7 tells", x, 2, 4, 7, 1);
            x.mark(s, 2, 0);
            hasEnds("0 tells", x, 2, 0, 4, 1);
            x.sheet(s, 2);
            hasEnds("without a place", x, 2, 4, 4, 0);
            hasEnds("WEEK 3 has no place at all", x, 3, 0, 0, 0);
            x.sheet(s, 3);
            hasEnds("a new place tells 0", x, 2, 0, 4, 1);
        }
    }

    private static void missingAtFirst() {
        c.says("or MISSING (at first: tells nothing).");
        for (int s = 0; s < 2; s++) {
            ChildPay x = new ChildPay();
            c.due("lose", x.lose(s), Check.NOTHING);
            c.due("mark", x.mark(s, 0, 0), Check.NOTHING);
            c.due("copy", x.copy(s, 0, s, 0, 0), Check.NOTHING);
            x.sheet(1 - s, 1);
            x.mark(1 - s, 0, 5);
            hasEnds("the other one alone", x, 0, 5, 5, 0);
        }
    }

    private static void findings() {
        c.says("FINDINGS: NOTHING: a SHEET is MISSING; INDEX: there is no such place; SIZE: a number of places is below 0.");
        ChildPay x = new ChildPay();
        c.due("NOTHING", x.mark(0, 0, 0), Check.NOTHING);
        c.due("SIZE", x.sheet(0, -1), Check.SIZE);
        c.due("SIZE makes no SHEET", x.lose(0), Check.NOTHING);
        x.sheet(0, 2);
        c.due("INDEX behind", x.mark(0, 2, 0), Check.INDEX);
        c.due("INDEX ahead", x.mark(0, -1, 0), Check.INDEX);
        x.sheet(0, 0);
        c.due("a SHEET of 0 places is not MISSING", x.mark(0, 0, 0), Check.INDEX);
        c.due("nor for copy", x.copy(0, 0, 0, 0, 0), 0);
        c.due("nor for lose", x.lose(0), 0);
    }

    private static void sheetAsks() {
        c.says("A SHEET has n places, all 0: n. BAD: sheet, n above 120; SIZE.");
        for (int n : new int[] {121, Integer.MAX_VALUE}) c.due("n " + n, new ChildPay().sheet(0, n), Check.BAD);
        for (int n : new int[] {-1, -120, Integer.MIN_VALUE}) {
            c.due("n " + n, new ChildPay().sheet(1, n), Check.SIZE);
            c.due("no such sheet, n " + n, new ChildPay().sheet(2, n), Check.BAD);
            c.due("no such sheet either, n " + n, new ChildPay().sheet(-1, n), Check.BAD);
        }
        ChildPay x = sheets(120, 120);
        for (int place = 0; place < 120; place++) x.mark(0, place, 9);
        x.mark(1, 0, 5);
        c.due("anew", x.sheet(0, 120), 120);
        for (int place = 0; place < 120; place++) c.due("place " + place, x.mark(0, place, 9), 0);
        c.due("the other one stays", x.mark(1, 0, 5), 5);
        x.sheet(0, 1);
        x.sheet(0, 120);
        c.due("0 behind a shorter one", x.mark(0, 119, 9), 0);
        x.lose(0);
        x.sheet(0, 120);
        c.due("0 behind a lost one", x.mark(0, 119, 9), 0);
    }

    private static void markAsks() {
        c.says("A place of a SHEET becomes v (as a byte): what it was. BAD: sheet; NOTHING; INDEX.");
        c.range("sheet", 0, 1, s -> sheets(1, 1).mark(s, 0, 0));
        int[][] bytes = {{127, 127}, {128, -128}, {255, -1}, {256, 0}, {-128, -128}, {-129, 127}, {300, 44},
            {Integer.MAX_VALUE, -1}, {Integer.MIN_VALUE, 0}};
        ChildPay x = sheets(4, 1);
        for (int[] b : bytes) {
            x.mark(0, 3, b[0]);
            c.due(b[0] + " as a byte", x.mark(0, 3, 0), b[1]);
        }
        for (int place : new int[] {-1, 4, Integer.MIN_VALUE, Integer.MAX_VALUE}) {
            c.due("place " + place, x.mark(0, place, 1), Check.INDEX);
        }
        c.due("the other SHEET's last place", x.mark(1, 0, 1), 0);
        c.due("is shorter", x.mark(1, 1, 1), Check.INDEX);
        c.due("260 tells 4", x.mark(0, 3, 260), 0);
        c.due("4 nights", x.nights(3, GREATER), 4);
    }

    /** SHEET 0: 1 2 3 4 5, SHEET 1: 11 12 13. */
    private static ChildPay counted() {
        ChildPay x = sheets(5, 3);
        for (int place = 0; place < 5; place++) x.mark(0, place, place + 1);
        for (int place = 0; place < 3; place++) x.mark(1, place, place + 11);
        return x;
    }

    private static void holds(String what, ChildPay x, int s, int... want) {
        for (int place = 0; place < want.length; place++) {
            c.due(what + ", SHEET " + s + " place " + place, x.mark(s, place, want[place]), want[place]);
        }
        c.due(what + ", no place behind", x.mark(s, want.length, 0), Check.INDEX);
    }

    private static void copyAsks() {
        c.says("So many places of a SHEET come to another one (or the same), as they were: many. BAD; NOTHING; INDEX.");
        c.range("from", 0, 1, s -> counted().copy(s, 0, 0, 0, 1));
        c.range("to", 0, 1, s -> counted().copy(0, 0, s, 0, 1));
        int[][] beyond = {{-1, 0, 1}, {0, -1, 1}, {5, 0, 1}, {0, 3, 1}, {3, 0, 3}, {0, 1, 3}, {0, 0, 4}, {6, 0, 0}, {0, 4, 0},
            {-1, 0, 0}, {0, -1, 0}, {0, 0, -1}, {5, 3, -1}, {Integer.MAX_VALUE, 0, 1}, {0, Integer.MAX_VALUE, 1},
            {0, 0, Integer.MAX_VALUE}, {1, 1, Integer.MAX_VALUE}, {Integer.MIN_VALUE, 0, 1}, {0, Integer.MIN_VALUE, 1},
            {0, 0, Integer.MIN_VALUE}, {Integer.MAX_VALUE, Integer.MAX_VALUE, Integer.MAX_VALUE},
            {Integer.MIN_VALUE, Integer.MIN_VALUE, Integer.MIN_VALUE}, {Integer.MAX_VALUE, 0, Integer.MIN_VALUE}};
        for (int[] b : beyond) {
            ChildPay x = counted();
            String call = "copy(0, " + b[0] + ", 1, " + b[1] + ", " + b[2] + ")";
            c.due(call, x.copy(0, b[0], 1, b[1], b[2]), Check.INDEX);
            holds(call, x, 0, 1, 2, 3, 4, 5);
            holds(call, x, 1, 11, 12, 13);
        }
        ChildPay half = counted();
        half.lose(1);
        c.due("to a MISSING one", half.copy(0, 0, 1, 0, 0), Check.NOTHING);
        c.due("from a MISSING one", half.copy(1, 0, 0, 0, 0), Check.NOTHING);
        c.due("among the one that is there", half.copy(0, 0, 0, 1, 1), 1);
    }

    private static void copyRuns() {
        c.says("So many places of a SHEET come to another one (or the same), as they were: many.");
        ChildPay x = counted();
        c.due("all that fit", x.copy(0, 2, 1, 0, 3), 3);
        holds("all that fit", x, 1, 3, 4, 5);
        holds("the first one stays", x, 0, 1, 2, 3, 4, 5);
        x = counted();
        c.due("the last to the last", x.copy(1, 2, 0, 4, 1), 1);
        holds("the last to the last", x, 0, 1, 2, 3, 4, 13);
        c.due("none", x.copy(0, 0, 1, 0, 0), 0);
        c.due("none, just behind the last", x.copy(0, 5, 1, 3, 0), 0);
        holds("none", x, 1, 11, 12, 13);
        x = counted();
        c.due("forward in the same", x.copy(0, 0, 0, 2, 3), 3);
        holds("as they were", x, 0, 1, 2, 1, 2, 3);
        x = counted();
        c.due("back in the same", x.copy(0, 2, 0, 0, 3), 3);
        holds("as they were", x, 0, 3, 4, 5, 4, 5);
        x = counted();
        c.due("onto itself", x.copy(0, 0, 0, 0, 5), 5);
        holds("onto itself", x, 0, 1, 2, 3, 4, 5);
        c.says("(From a SHEET, its place, to a SHEET, its place.)");
        x = counted();
        c.due("from 1, its place 2, to 0, its place 4", x.copy(1, 2, 0, 4, 1), 1);
        holds("the place of SHEET 0", x, 0, 1, 2, 3, 4, 13);
        c.due("there is no place 4 of SHEET 1", x.copy(1, 4, 0, 2, 1), Check.INDEX);
        ChildPay whole = sheets(120, 120);
        whole.mark(0, 0, 3);
        whole.mark(0, 119, -7);
        c.due("a whole SHEET", whole.copy(0, 0, 1, 0, 120), 120);
        c.due("its first place", whole.mark(1, 0, 0), 3);
        c.due("its last place", whole.mark(1, 119, 0), -7);
    }

    private static void loseAsks() {
        c.says("A SHEET is MISSING: how many places it had. BAD; NOTHING.");
        c.range("sheet", 0, 1, s -> sheets(1, 1).lose(s));
        ChildPay x = sheets(0, 120);
        c.due("0 places", x.lose(0), 0);
        c.due("120 places", x.lose(1), 120);
        c.due("lost already", x.lose(0), Check.NOTHING);
        c.due("lost already", x.lose(1), Check.NOTHING);
        x.sheet(1, 7);
        c.due("one of the two is back", x.lose(1), 7);
    }
}
