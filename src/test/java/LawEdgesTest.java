/** The texts of Terms 3 and promises 9 to 12: each sentence that names an edge, with a test of its own. */
public final class LawEdgesTest {
    private static final Check c = new Check();
    /** The numbers of a LAW in their order: the text ahead of each, its bounds. */
    private static final String[] AHEAD = {"take ", "take 5 over ", "take 5 over 9 take ", "take 5 night ", "take 5 other ",
        "take 5 least ", "take 5 most "};
    private static final String[] BEHIND = {"", " take 3", "", "", "", "", ""};
    private static final int[] LEAST = {0, 1, 0, 0, 0, 0, 1};
    private static final int[] MOST = {60, 100000, 60, 14, 20, 100000, 100000};
    private static final String[] OPTIONS = {"over 9 take 3", "night 1", "other 1", "least 1", "most 9"};

    public static void main(String[] args) {
        seventyTwoBytes();
        usedUp();
        blanks();
        digitsAlone();
        bounds();
        mostNotBelowLeast();
        orderOfParts();
        holdsFrom();
        faultsAtTheFirstByte();
        wordsUpToABlank();
        theEndTooSoon();
        theFirstOne();
        eightAtMost();
        feedAsks();
        bytesInOrder();
        trimAsks();
        lawAsks();
        inForceAsks();
        c.end();
    }

    private static int law(String text) {
        return Check.law(new ChildPay(), text, 0);
    }

    private static void stands(String text) {
        c.due("law '" + text + "'", law(text), 0);
    }

    private static void fault(String text, int place) {
        ChildPay x = new ChildPay();
        c.due("law '" + text + "'", Check.law(x, text, 0), -100 - place);
        c.due("no LAW by '" + text + "'", x.count(2), 0);
        c.due("none in force by '" + text + "'", x.inForce(119), Check.NONE);
    }

    private static void seventyTwoBytes() {
        c.says("A LAW is a TEXT on THE TAPE (72 bytes at most;");
        String longest = "take 60 over 100000 take 60 night 14 other 20 least 100000 most 100000";
        stands(longest);
        stands(longest + "  ");
        stands("  " + longest);
        fault(longest + " x", 71);
        fault("x".repeat(72), 0);
        fault(" ".repeat(71) + "x", 71);
        fault(" ".repeat(72), 72);
        ChildPay x = new ChildPay();
        Check.tape(x, longest + "  ");
        c.due("72 bytes", x.count(7), 72);
        c.due("not one more", x.feed(0, 0, 0), Check.FULL);
    }

    private static void usedUp() {
        c.says("an act that reads it uses it up, whatever it answers)");
        ChildPay x = new ChildPay();
        int[] froms = {0, 120, -1, 0};
        String[] texts = {"take 5", "take 5", "x", "x"};
        int[] want = {0, Check.BAD, Check.BAD, -100};
        for (int i = 0; i < froms.length; i++) {
            c.due("law", Check.law(x, texts[i], froms[i]), want[i]);
            c.due("bytes behind it", x.count(7), 0);
            c.due("nothing to keep", x.trim(1), Check.BAD);
            c.due("the empty TAPE", x.law(0), -100);
        }
        for (int i = 1; i < 8; i++) Check.law(x, "take 5", 0);
        c.due("FULL", Check.law(x, "take 5", 0), Check.FULL);
        c.due("bytes behind FULL", x.count(7), 0);
        x.feed(0, 0, 0);
        x.inForce(0);
        x.sum(0, 0, 0);
        x.count(7);
        c.due("other acts leave it", x.count(7), 12);
    }

    private static void blanks() {
        c.says("with blanks (byte 32) between, one or more, none needed at the ends:");
        stands("take 5 over 9 take 3 night 1");
        stands("take  5   over    9     take      3");
        stands(" take 5");
        stands("take 5 ");
        stands("   take 5   ");
        for (char sign : new char[] {0, 9, 10, 13, 31, 33, 160, 255}) {
            fault("take" + sign + "5", 0);
            fault("take 5" + sign, 5);
            fault(sign + "take 5", 0);
            fault("take 5 " + sign, 7);
        }
    }

    private static void digitsAlone() {
        c.says("WORDS and NUMBERS (digits alone)");
        String[] none = {"x", "-1", "+1", "1x", "x1", "1.", "1,0", "0x1", "1/", "1:", "\u00b2", "1\u0000", "\u00b01", "over", "take"};
        for (int i = 0; i < AHEAD.length; i++) {
            for (String n : none) fault(AHEAD[i] + n + BEHIND[i], AHEAD[i].length());
            stands(AHEAD[i] + MOST[i] + BEHIND[i]);
            stands(AHEAD[i] + "0000" + MOST[i] + BEHIND[i]);
            for (String great : new String[] {"2147483648", "4294967296", "4294967297", "18446744073709551617", "99999999999999999999999999"}) {
                fault(AHEAD[i] + great + BEHIND[i], AHEAD[i].length());
            }
        }
    }

    private static void bounds() {
        c.says("P, Q 0 .. 60, A 1 .. 100000, N 0 .. 14, M 0 .. 20, F 0 .. 100000, C 1 .. 100000");
        for (int i = 0; i < AHEAD.length; i++) {
            stands(AHEAD[i] + LEAST[i] + BEHIND[i]);
            stands(AHEAD[i] + MOST[i] + BEHIND[i]);
            fault(AHEAD[i] + (MOST[i] + 1) + BEHIND[i], AHEAD[i].length());
            if (LEAST[i] > 0) fault(AHEAD[i] + (LEAST[i] - 1) + BEHIND[i], AHEAD[i].length());
        }
    }

    private static void mostNotBelowLeast() {
        c.says("C 1 .. 100000 and not below F (F is 0, if not told;");
        stands("take 5 least 8 most 8");
        stands("take 5 least 8 most 9");
        fault("take 5 least 8 most 7", 20);
        stands("take 5 least 100000 most 100000");
        fault("take 5 least 100000 most 99999", 25);
        stands("take 5 least 0 most 1");
        fault("take 5 least 0 most 0", 20);
        stands("take 5 most 1");
        fault("take 5 most 0", 12);
        ChildPay x = new ChildPay();
        Check.law(x, "take 5 least 50 most 60", 0);
        c.due("an F of another LAW is not this one's", Check.law(x, "take 5 most 1", 0), 1);
        Check.law(x, "take 5 least 50 x", 0);
        c.due("nor one of a text with a fault", Check.law(x, "take 5 most 1", 0), 2);
    }

    private static void orderOfParts() {
        c.says("take P [ over A take Q ] [ night N ] [ other M ] [ least F ] [ most C ].");
        stands("take 5");
        for (int i = 0; i < OPTIONS.length; i++) {
            stands("take 5 " + OPTIONS[i]);
            for (int j = 0; j < OPTIONS.length; j++) {
                String ahead = "take 5 " + OPTIONS[i] + " ";
                if (j > i) {
                    stands(ahead + OPTIONS[j]);
                } else {
                    fault(ahead + OPTIONS[j], ahead.length());
                }
            }
            fault("take 5 " + OPTIONS[i] + " take 5", 8 + OPTIONS[i].length());
            fault("take 5 " + OPTIONS[i] + " 5", 8 + OPTIONS[i].length());
            fault(OPTIONS[i], 0);
        }
        fault("take 5 take 3", 7);
        fault("take 5 over 9 night 1", 14);
        fault("take 5 over 9 over 9 take 3", 14);
        stands("take 5 " + String.join(" ", OPTIONS));
    }

    private static void holdsFrom() {
        c.says("It holds from the WEEK told with it, till one that holds from a later WEEK, or from the same one and told later, does.");
        ChildPay x = new ChildPay();
        Check.law(x, "take 1", 10);
        c.due("a WEEK ahead", x.inForce(9), Check.NONE);
        c.due("its WEEK", x.inForce(10), 0);
        c.due("to the end", x.inForce(119), 0);
        Check.law(x, "take 2", 20);
        c.due("till a later one does", x.inForce(19), 0);
        c.due("a later one", x.inForce(20), 1);
        Check.law(x, "take 3", 10);
        c.due("from the same one and told later", x.inForce(10), 2);
        c.due("till a later one does", x.inForce(19), 2);
        c.due("told later, but from an earlier WEEK", x.inForce(20), 1);
        Check.law(x, "take 4", 0);
        c.due("from WEEK 0", x.inForce(0), 3);
        c.due("up to WEEK 9", x.inForce(9), 3);
        c.due("not in WEEK 10", x.inForce(10), 2);
        Check.law(x, "take 5", 119);
        c.due("ahead of the last WEEK", x.inForce(118), 1);
        c.due("the last WEEK", x.inForce(119), 4);
        x.weeks(30);
        Check.law(x, "take 6", 5);
        c.due("a LAW may hold from a WEEK that is gone", x.inForce(5), 5);
    }

    private static void faultsAtTheFirstByte() {
        c.says("FAULTS: what can't stand where it is, or is not as told (at its first byte;");
        fault("x", 0);
        fault("  give 5", 2);
        fault("5", 0);
        fault("take   61", 7);
        fault("take 5  hello", 8);
        fault("take 5 over   100001 take 1", 14);
        fault("take 5 over 9   give 3", 16);
        fault("take 5 over 9 take   61", 21);
        fault("TAKE 5", 0);
        fault("take 5 Over 9 take 3", 7);
    }

    private static void wordsUpToABlank() {
        c.says("a WORD is all bytes up to the next blank);");
        fault("take5", 0);
        fault("takes 5", 0);
        fault("tak 5", 0);
        fault("take 5over 9 take 3", 5);
        fault("take 5 over9 take 3", 7);
        fault("take 5 over 9take 3", 12);
        fault("take 5 nights 1", 7);
        fault("take 5 nigh 1", 7);
        fault("take 5 night1", 7);
        fault("take 5 others 1", 7);
        fault("take 5 leas 1", 7);
        fault("take 5 mostly 1", 7);
        fault("take 5\u00ff", 5);
        fault("take 5 night\u0000 1", 7);
    }

    private static void theEndTooSoon() {
        c.says("the end, if it comes too soon (the place behind the last byte on THE TAPE).");
        String[] cut = {"", "take", "take 5 over", "take 5 over 9", "take 5 over 9 take", "take 5 night", "take 5 other", "take 5 least",
            "take 5 most", "take 5 over 9 take 3 night 1 other 1 least 1 most"};
        for (String text : cut) {
            for (String blanks : new String[] {"", " ", "     "}) fault(text + blanks, text.length() + blanks.length());
            fault(text + " ".repeat(72 - text.length()), 72);
        }
        ChildPay x = new ChildPay();
        Check.tape(x, "take 5 night 1");
        x.trim(12);
        c.due("what is trimmed is not read", x.law(0), -112);
    }

    private static void theFirstOne() {
        c.says("The first one is told.");
        fault("tak 61 over", 0);
        fault("take 61 x", 5);
        fault("take 61", 5);
        fault("take 5 over 0 take 61", 12);
        fault("take 5 over 9 tak 61", 14);
        fault("take 5 night 15 other 21", 13);
        fault("take 5 x night", 7);
        fault("take 5 least 100001 most 0", 13);
    }

    private static void eightAtMost() {
        c.says("LAWS, 8 at most.");
        ChildPay x = new ChildPay();
        for (int i = 0; i < 8; i++) {
            c.due("LAW " + i, Check.law(x, "take " + i, i), i);
            c.due("a text with a fault takes no number", Check.law(x, "take", 0), -104);
        }
        c.due("one more", Check.law(x, "take 9 least 7", 0), Check.FULL);
        c.due("8 of them", x.count(2), 8);
        x.change(2, 1, 0);
        x.change(1, 100, 0);
        for (int week = 0; week < 9; week++) {
            c.due("in force in " + week, x.inForce(week), Math.min(week, 7));
            c.due("and read as told", x.sum(week, 0, 0), Math.min(week, 7));
        }
    }

    private static void feedAsks() {
        c.says("Twelve bytes come to THE TAPE, the highest of each number first: how many it has. FULL: it would have more than 72.");
        for (int kept = 0; kept <= 72; kept++) {
            ChildPay x = new ChildPay();
            for (int i = 0; i < 6; i++) c.due("feed " + i, x.feed(-1, 0, 1), 12 * i + 12);
            x.trim(kept);
            c.due("feed behind " + kept, x.feed(-1, 0, 1), kept <= 60 ? kept + 12 : Check.FULL);
            c.due("bytes behind it", x.count(7), kept <= 60 ? kept + 12 : kept);
        }
    }

    private static void bytesInOrder() {
        c.says("Twelve bytes come to THE TAPE, the highest of each number first");
        ChildPay x = new ChildPay();
        x.feed(0x74616B65, 0x20352020, 0x20206D6F);
        x.feed(0x73742039, 0x20202020, 0x202020FF);
        c.due("the last byte is the lowest of the third", x.law(0), -123);
        x.feed(0x74616B65, 0x20352020, 0x20206D6F);
        x.feed(0x73742039, 0x20202020, 0x20202020);
        c.due("a word over two feeds", x.law(0), 0);
        x.feed(0xFF616B65, 0x20352020, 0x20202020);
        c.due("the first byte is the highest of the first", x.law(0), -100);
    }

    private static void trimAsks() {
        c.says("THE TAPE keeps its first n bytes: n. BAD.");
        c.range("n of an empty TAPE", 0, 0, n -> new ChildPay().trim(n));
        c.range("n of twelve", 0, 12, n -> fed(1).trim(n));
        c.range("n of all", 0, 72, n -> fed(6).trim(n));
        for (int n = 0; n <= 24; n++) c.due("keep " + n, fed(2).trim(n), n);
        ChildPay x = new ChildPay();
        x.feed(0x74616B65, 0x20353520, 0x78787878);
        x.trim(6);
        c.due("bytes", x.count(7), 6);
        c.due("no way back", x.trim(7), Check.BAD);
        c.due("the first ones", x.law(0), 0);
        x.change(1, 100, 0);
        x.change(2, 1, 0);
        c.due("take 5, not take 55", x.sum(0, 0, 0), 5);
    }

    private static ChildPay fed(int times) {
        ChildPay x = new ChildPay();
        for (int i = 0; i < times; i++) x.feed(0, 0, 0);
        return x;
    }

    private static void lawAsks() {
        c.says("THE TAPE is a LAW that holds from a WEEK on: its number. BAD: week (asked first); -100 less the place of its fault; FULL.");
        c.range("from", 0, 119, from -> Check.law(new ChildPay(), "take 5", from));
        c.range("from, with a fault", 0, 119, from -> Check.law(new ChildPay(), "take", from));
        c.due("a fault at place 0", law("x"), -100);
        c.due("a fault at place 72", law(" ".repeat(72)), -172);
        ChildPay full = new ChildPay();
        for (int i = 0; i < 8; i++) Check.law(full, "take 5", 0);
        c.due("a WEEK that is none, FULL", Check.law(full, "take 5", 120), Check.BAD);
        c.due("a fault, FULL", Check.law(full, "take 5 x", 0), -107);
        c.due("a WEEK that is none, a fault, FULL", Check.law(full, "x", -1), Check.BAD);
        c.due("FULL", Check.law(full, "take 5", 0), Check.FULL);
    }

    private static void inForceAsks() {
        c.says("The LAW that holds in a WEEK; NONE. BAD.");
        c.range("week", 0, 119, week -> new ChildPay().inForce(week));
        ChildPay x = new ChildPay();
        Check.law(x, "take 5", 119);
        c.due("NONE in 118", x.inForce(118), Check.NONE);
        c.due("LAW 0 in 119", x.inForce(119), 0);
    }
}
