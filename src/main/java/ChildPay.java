import java.util.Arrays;

/** Two homes, one child: what one home owes the other, week by week. */
public final class ChildPay {
    public static final int BAD = -2000000001, NO = -2000000002, FULL = -2000000003, NONE = -2000000005,
            NOTHING = -2000000011, INDEX = -2000000013, SIZE = -2000000014;

    private static final int WEEKS = 120;
    private static final int MOST_WEEKS_AT_ONCE = 60;
    private static final int MOST_CHANGES = 80;
    private static final int MOST_LAWS = 8;
    private static final int MOST_LINES = 100;
    private static final int MOST_TAPE = 72;
    private static final int MOST_NIGHTS = 7;
    private static final int MOST_MONEY = 100000;
    private static final int MOST_CHILDREN = 4;
    private static final int MOST_OTHERS = 5;
    private static final int MOST_COINS = 1000000;
    private static final int MOST_RATE = 500;
    private static final int RATE_PARTS = 10000;
    private static final int WEEKS_FREE_OF_INTEREST = 4;
    private static final int MARKS = 10;
    private static final int SHEETS = 2;
    private static final int SIDES = 2;
    private static final int HIGH_SIDE = 1;

    private static final int OTHER_CHILDREN = 0;
    private static final int INCOME = 1;
    private static final int CHILD = 2;
    private static final int TRUE_INCOME = 3;
    private static final int KINDS = 4;

    private static final int BLANK = 32;
    private static final int[] HUNDREDTHS_BY_CHILDREN = {0, 100, 150, 180, 200};

    private final Changes changes;
    private final Tape tape;
    private final Reader reader;
    private final Laws laws;
    private final Nights nightsTold;
    private final Bank bank;
    private final Account account;
    private final boolean[] forgiven;
    private int rateNow;
    private int now;

    public ChildPay() {
        changes = new Changes();
        tape = new Tape();
        reader = new Reader(tape);
        laws = new Laws();
        nightsTold = new Nights();
        bank = new Bank();
        account = new Account();
        forgiven = new boolean[WEEKS];
    }

    // ---- changes

    public int change(int kind, int v, int from) {
        if (!Changes.mayHold(kind, v) || !isWeek(from)) return BAD;
        if (changes.size == MOST_CHANGES) return FULL;
        return changes.add(kind, v, from, now);
    }

    public int isOf(int change, int kind) {
        if (!changes.has(change) || !isBelow(kind, KINDS)) return BAD;
        return changes.isOfKind(change, kind) ? 1 : 0;
    }

    public int takeBack(int change) {
        if (!changes.has(change)) return BAD;
        if (changes.backs[change] != NONE) return NO;
        changes.backs[change] = now;
        return 1;
    }

    public int told(int change, int what) {
        if (!changes.has(change)) return BAD;
        switch (what) {
            case 0: return changes.kinds[change];
            case 1: return changes.values[change];
            case 2: return changes.starts[change];
            case 3: return changes.tellings[change];
            case 4: return changes.backs[change];
            default: return BAD;
        }
    }

    public int known(int k, int week, int what) {
        if (!isPast(k) || !isWeek(week)) return BAD;
        switch (what) {
            case 0: return changes.incomeAt(k, week);
            case 1: return changes.childrenAt(k, week);
            case 2: return changes.othersAt(k, week);
            default: return BAD;
        }
    }

    // ---- nights

    public int school(int week, int nights) {
        if (!isWeek(week)) return BAD;
        if (nights != NONE && !areNights(nights)) return BAD;
        int before = nightsTold.bySchool[week];
        nightsTold.bySchool[week] = nights;
        return before;
    }

    public int nights(int week, int what) {
        if (!isWeek(week)) return BAD;
        switch (what) {
            case 0: return nightsTold.lesser(week);
            case 1: return nightsTold.greater(week);
            case 2: return nightsTold.areUnlike(week) ? 1 : 0;
            default: return BAD;
        }
    }

    // ---- laws

    public int feed(int a, int b, int c) {
        if (tape.size + 12 > MOST_TAPE) return FULL;
        tape.put(a);
        tape.put(b);
        tape.put(c);
        return tape.size;
    }

    public int trim(int n) {
        if (n < 0 || n > tape.size) return BAD;
        tape.size = n;
        return n;
    }

    public int law(int from) {
        int answer = isWeek(from) ? addLaw(from) : BAD;
        tape.size = 0;
        return answer;
    }

    private int addLaw(int from) {
        Law draft = laws.rows[laws.size];
        int fault = reader.readInto(draft);
        if (fault != NONE) return -100 - fault;
        if (laws.size == MOST_LAWS) return FULL;
        draft.from = from;
        laws.size++;
        return laws.size - 1;
    }

    public int inForce(int week) {
        if (!isWeek(week)) return BAD;
        return laws.numberAt(week);
    }

    // ---- sums

    public int sum(int week, int n, int k) {
        if (!isWeek(week) || !areNights(n) || !isPast(k)) return BAD;
        return sumOf(week, n, k);
    }

    public int due(int week, int side, int k) {
        if (!isWeek(week) || !isBelow(side, SIDES) || !isPast(k)) return BAD;
        return dueOf(week, side, k);
    }

    public int edge(int week, int n) {
        if (!isWeek(week) || !isBelow(n, MOST_NIGHTS)) return BAD;
        return sumOf(week, n, now) - sumOf(week, n + 1, now);
    }

    private int sumOf(int week, int n, int k) {
        int number = laws.numberAt(week);
        if (number == NONE) return 0;
        int children = changes.childrenAt(k, week);
        if (children == 0) return 0;
        Law law = laws.rows[number];
        int income = law.incomeLess(changes.incomeAt(k, week), changes.othersAt(k, week));
        return law.withNights(law.forChildren(income, children), n);
    }

    private int dueOf(int week, int side, int k) {
        if (forgiven[week]) return 0;
        int lesser = nightsTold.lesser(week);
        int greater = nightsTold.greater(week);
        int one = sumOf(week, lesser, k);
        if (lesser == greater) return one;
        int other = sumOf(week, greater, k);
        return side == HIGH_SIDE ? Math.max(one, other) : Math.min(one, other);
    }

    // ---- pays

    public int line(int week, int coins, int mark) {
        if (!isPast(week) || coins < 1 || coins > MOST_COINS || !isBelow(mark, MARKS)) return BAD;
        if (bank.size == MOST_LINES) return FULL;
        return bank.add(week, coins, mark);
    }

    public int marks(int set) {
        if (!isBelow(set, 1 << MARKS)) return BAD;
        int before = bank.payMarks;
        bank.payMarks = set;
        return before;
    }

    public int paid(int week, int what) {
        if (!isWeek(week) || !isBelow(what, 2)) return BAD;
        return bank.coinsIn(week, what == 0);
    }

    public int owed(int side, int k) {
        if (!isBelow(side, SIDES) || !isPast(k)) return BAD;
        settle(side, k);
        return account.leftInAll();
    }

    public int over(int side, int k) {
        if (!isBelow(side, SIDES) || !isPast(k)) return BAD;
        settle(side, k);
        return account.rest;
    }

    public int left(int week, int side, int k) {
        if (!isBelow(side, SIDES) || !isPast(k) || week < 0 || week > k) return BAD;
        settle(side, k);
        return account.lefts[week];
    }

    public int oldest(int side, int k) {
        if (!isBelow(side, SIDES) || !isPast(k)) return BAD;
        settle(side, k);
        return account.firstLeft();
    }

    public int payer(int week, int side) {
        if (!isPast(week) || !isBelow(side, SIDES)) return BAD;
        settle(side, now);
        if (account.dues[week] == 0) return NONE;
        return bank.lineWithCoin(account.dueUpTo(week), now);
    }

    public int interest(int side, int k) {
        if (!isBelow(side, SIDES) || !isPast(k)) return BAD;
        settle(side, k);
        int all = 0;
        for (int x = WEEKS_FREE_OF_INTEREST; x <= k; x++) {
            account.payOldestFirst(bank.paysUpTo(x));
            all += account.interestUpTo(x - WEEKS_FREE_OF_INTEREST, rateNow);
        }
        return all;
    }

    public int forgive(int week, int on) {
        if (!isWeek(week) || !isBelow(on, 2)) return BAD;
        int before = forgiven[week] ? 1 : 0;
        forgiven[week] = on == 1;
        return before;
    }

    public int rate(int v) {
        if (v < 0 || v > MOST_RATE) return BAD;
        int before = rateNow;
        rateNow = v;
        return before;
    }

    public int weeks(int n) {
        if (n < 1 || n > MOST_WEEKS_AT_ONCE || !isWeek(now + n)) return BAD;
        now += n;
        return now;
    }

    private void settle(int side, int k) {
        for (int week = 0; week <= k; week++) {
            account.dues[week] = dueOf(week, side, k);
        }
        account.weeks = k + 1;
        account.payOldestFirst(bank.paysUpTo(k));
    }

    // ---- sheets

    public int sheet(int s, int n) {
        if (!isBelow(s, SHEETS) || n > WEEKS) return BAD;
        if (n < 0) return SIZE;
        nightsTold.sheets[s].makeAnew(n);
        return n;
    }

    public int mark(int s, int place, int v) {
        if (!isBelow(s, SHEETS)) return BAD;
        Sheet sheet = nightsTold.sheets[s];
        if (sheet.isMissing()) return NOTHING;
        if (!isBelow(place, sheet.size)) return INDEX;
        int before = sheet.places[place];
        sheet.places[place] = (byte) v;
        return before;
    }

    public int copy(int from, int place, int to, int at, int many) {
        if (!isBelow(from, SHEETS) || !isBelow(to, SHEETS)) return BAD;
        Sheet source = nightsTold.sheets[from];
        Sheet target = nightsTold.sheets[to];
        if (source.isMissing() || target.isMissing()) return NOTHING;
        if (!source.hasRun(place, many) || !target.hasRun(at, many)) return INDEX;
        System.arraycopy(source.places, place, target.places, at, many);
        return many;
    }

    public int lose(int s) {
        if (!isBelow(s, SHEETS)) return BAD;
        Sheet sheet = nightsTold.sheets[s];
        if (sheet.isMissing()) return NOTHING;
        int before = sheet.size;
        sheet.size = Sheet.MISSING;
        return before;
    }

    public int count(int what) {
        switch (what) {
            case 0: return changes.size;
            case 1: return changes.notTakenBack();
            case 2: return laws.size;
            case 3: return bank.size;
            case 4: return now;
            case 5: return forgivenWeeks();
            case 6: return nightsTold.unlikeWeeks(now);
            case 7: return tape.size;
            default: return BAD;
        }
    }

    private int forgivenWeeks() {
        int many = 0;
        for (int week = 0; week < WEEKS; week++) {
            if (forgiven[week]) many++;
        }
        return many;
    }

    // ---- what may be asked

    private static boolean isBelow(int v, int bound) {
        return v >= 0 && v < bound;
    }

    private static boolean isWeek(int week) {
        return isBelow(week, WEEKS);
    }

    private static boolean areNights(int n) {
        return n >= 0 && n <= MOST_NIGHTS;
    }

    private boolean isPast(int week) {
        return week >= 0 && week <= now;
    }

    /** The CHANGES, in rows by their numbers. */
    private static final class Changes {
        final int[] kinds = new int[MOST_CHANGES];
        final int[] values = new int[MOST_CHANGES];
        final int[] starts = new int[MOST_CHANGES];
        final int[] tellings = new int[MOST_CHANGES];
        final int[] backs = new int[MOST_CHANGES];
        int size;

        static boolean mayHold(int kind, int v) {
            switch (kind) {
                case OTHER_CHILDREN: return v >= 0 && v <= MOST_OTHERS;
                case INCOME:
                case TRUE_INCOME: return v >= 0 && v <= MOST_MONEY;
                case CHILD: return v == 1 || v == -1;
                default: return false;
            }
        }

        int add(int kind, int v, int from, int now) {
            kinds[size] = kind;
            values[size] = v;
            starts[size] = from;
            tellings[size] = now;
            backs[size] = NONE;
            size++;
            return size - 1;
        }

        boolean has(int change) {
            return isBelow(change, size);
        }

        boolean isOfKind(int change, int kind) {
            int own = kinds[change];
            // KIND 0 is also the name of them all, and a TRUE INCOME is an INCOME.
            return kind == OTHER_CHILDREN || own == kind || (kind == INCOME && own == TRUE_INCOME);
        }

        int notTakenBack() {
            int many = 0;
            for (int i = 0; i < size; i++) {
                if (backs[i] == NONE) many++;
            }
            return many;
        }

        int incomeAt(int k, int week) {
            int change = latest(TRUE_INCOME, k, week);
            if (change == NONE) change = latest(INCOME, k, week);
            return change == NONE ? 0 : values[change];
        }

        int childrenAt(int k, int week) {
            int all = 0;
            for (int i = 0; i < size; i++) {
                if (kinds[i] == CHILD && counts(i, k, week)) all += values[i];
            }
            return Math.max(0, Math.min(MOST_CHILDREN, all));
        }

        int othersAt(int k, int week) {
            int change = latest(OTHER_CHILDREN, k, week);
            return change == NONE ? 0 : values[change];
        }

        private int latest(int kind, int k, int week) {
            int best = NONE;
            for (int i = 0; i < size; i++) {
                if (kinds[i] != kind || !counts(i, k, week)) continue;
                if (best == NONE || starts[i] >= starts[best]) best = i;
            }
            return best;
        }

        private boolean counts(int i, int k, int week) {
            return starts[i] <= week && tellings[i] <= k && (backs[i] == NONE || backs[i] > k);
        }
    }

    /** THE TAPE. */
    private static final class Tape {
        final byte[] bytes = new byte[MOST_TAPE];
        int size;

        void put(int four) {
            for (int shift = 24; shift >= 0 && size < MOST_TAPE; shift -= 8) {
                bytes[size] = (byte) (four >>> shift);
                size++;
            }
        }
    }

    /** Reads THE TAPE word by word; behind its first fault it reads nothing more. */
    private static final class Reader {
        // Numbers are held below this, so that a long row of digits can't wrap into a range.
        private static final int TOO_GREAT = 10000000;

        private final Tape tape;
        private int start;
        private int end;
        private int fault;

        Reader(Tape tape) {
            this.tape = tape;
        }

        /** The place of the first fault; NONE. */
        int readInto(Law law) {
            fault = NONE;
            end = 0;
            step();
            need("take");
            law.share = number(0, 60);
            law.bound = Law.NO_BOUND;
            law.shareAbove = 0;
            if (skip("over")) {
                law.bound = number(1, MOST_MONEY);
                need("take");
                law.shareAbove = number(0, 60);
            }
            law.perNight = option("night", 0, 14, 0);
            law.perOther = option("other", 0, 20, 0);
            law.least = option("least", 0, MOST_MONEY, 0);
            law.most = option("most", Math.max(1, law.least), MOST_MONEY, Law.NO_BOUND);
            if (fault == NONE && start < tape.size) fault = start;
            return fault;
        }

        /** At the end the next word is an empty one, behind the last byte. */
        private void step() {
            start = end;
            while (start < tape.size && tape.bytes[start] == BLANK) start++;
            end = start;
            while (end < tape.size && tape.bytes[end] != BLANK) end++;
        }

        private boolean skip(String word) {
            if (fault != NONE || !isAt(word)) return false;
            step();
            return true;
        }

        private void need(String word) {
            if (!skip(word) && fault == NONE) fault = start;
        }

        private int option(String word, int least, int most, int without) {
            return skip(word) ? number(least, most) : without;
        }

        private int number(int least, int most) {
            if (fault != NONE) return 0;
            int value = digits();
            if (value < least || value > most) {
                fault = start;
                return 0;
            }
            step();
            return value;
        }

        private boolean isAt(String word) {
            if (end - start != word.length()) return false;
            for (int i = 0; i < word.length(); i++) {
                if (tape.bytes[start + i] != word.charAt(i)) return false;
            }
            return true;
        }

        /** The word as a number; -1: it is none. */
        private int digits() {
            if (start == end) return -1;
            int value = 0;
            for (int i = start; i < end; i++) {
                int digit = tape.bytes[i] - '0';
                if (!isBelow(digit, 10)) return -1;
                value = Math.min(TOO_GREAT, value * 10 + digit);
            }
            return value;
        }
    }

    /** One LAW; its shares are hundredths. */
    private static final class Law {
        static final int NO_BOUND = 1000000000;

        int from;
        int share;
        int bound;
        int shareAbove;
        int perNight;
        int perOther;
        int least;
        int most;

        int incomeLess(int income, int others) {
            return Math.max(0, income - others * (income * perOther / 100));
        }

        int forChildren(int income, int children) {
            if (!isBelow(children, HUNDREDTHS_BY_CHILDREN.length)) return 0;
            int below = Math.min(income, bound);
            int one = below * share / 100 + (income - below) * shareAbove / 100;
            return one * HUNDREDTHS_BY_CHILDREN[children] / 100;
        }

        int withNights(int amount, int n) {
            int less = Math.max(0, amount - n * (amount * perNight / 100));
            return Math.min(most, Math.max(least, less));
        }
    }

    /** The LAWS by their numbers. */
    private static final class Laws {
        // One row more than there are LAWS: the row behind the last LAW is where the next text is read into.
        final Law[] rows = new Law[MOST_LAWS + 1];
        int size;

        Laws() {
            for (int i = 0; i < rows.length; i++) rows[i] = new Law();
        }

        int numberAt(int week) {
            int best = NONE;
            for (int i = 0; i < size; i++) {
                if (rows[i].from > week) continue;
                if (best == NONE || rows[i].from >= rows[best].from) best = i;
            }
            return best;
        }
    }

    /** A SHEET; its row is made once, and its size says how much of it there is. */
    private static final class Sheet {
        static final int MISSING = -1;

        final byte[] places = new byte[WEEKS];
        int size = MISSING;

        void makeAnew(int n) {
            Arrays.fill(places, (byte) 0);
            size = n;
        }

        boolean isMissing() {
            return size == MISSING;
        }

        boolean hasRun(int place, int many) {
            return place >= 0 && many >= 0 && place <= size - many;
        }

        /** NIGHTS as this DIARY tells them; NONE. */
        int toldFor(int week) {
            if (!isBelow(week, size) || !areNights(places[week])) return NONE;
            return places[week];
        }
    }

    /** NIGHTS as the two DIARIES and the SCHOOL tell them. */
    private static final class Nights {
        final Sheet[] sheets = {new Sheet(), new Sheet()};
        final int[] bySchool = new int[WEEKS];

        Nights() {
            Arrays.fill(bySchool, NONE);
        }

        int lesser(int week) {
            return atEnd(week, false);
        }

        int greater(int week) {
            return atEnd(week, true);
        }

        boolean areUnlike(int week) {
            return lesser(week) != greater(week);
        }

        int unlikeWeeks(int last) {
            int many = 0;
            for (int week = 0; week <= last; week++) {
                if (areUnlike(week)) many++;
            }
            return many;
        }

        private int atEnd(int week, boolean wantsGreater) {
            if (bySchool[week] != NONE) return bySchool[week];
            int one = sheets[0].toldFor(week);
            int other = sheets[1].toldFor(week);
            if (one == NONE && other == NONE) return 0;
            if (one == NONE) return other;
            if (other == NONE) return one;
            return wantsGreater ? Math.max(one, other) : Math.min(one, other);
        }
    }

    /** The LINES, in rows by their numbers. */
    private static final class Bank {
        final int[] weeks = new int[MOST_LINES];
        final int[] coins = new int[MOST_LINES];
        final int[] marks = new int[MOST_LINES];
        int size;
        int payMarks = 1;

        int add(int week, int many, int mark) {
            weeks[size] = week;
            coins[size] = many;
            marks[size] = mark;
            size++;
            return size - 1;
        }

        int coinsIn(int week, boolean ofPays) {
            int all = 0;
            for (int i = 0; i < size; i++) {
                if (weeks[i] == week && isPay(i) == ofPays) all += coins[i];
            }
            return all;
        }

        int paysUpTo(int week) {
            int all = 0;
            for (int i = 0; i < size; i++) {
                if (weeks[i] <= week && isPay(i)) all += coins[i];
            }
            return all;
        }

        /** The PAY with the coin of this number (from 1), by WEEKS, then numbers; NONE. */
        int lineWithCoin(int coin, int last) {
            int all = 0;
            for (int week = 0; week <= last; week++) {
                for (int i = 0; i < size; i++) {
                    if (weeks[i] != week || !isPay(i)) continue;
                    all += coins[i];
                    if (all >= coin) return i;
                }
            }
            return NONE;
        }

        private boolean isPay(int i) {
            return (payMarks >> marks[i] & 1) == 1;
        }
    }

    /** What is due by WEEKS, and what is left of it behind the pays; filled anew by each call. */
    private static final class Account {
        final int[] dues = new int[WEEKS];
        final int[] lefts = new int[WEEKS];
        int weeks;
        int rest;

        void payOldestFirst(int coins) {
            rest = coins;
            for (int week = 0; week < weeks; week++) {
                int part = Math.min(rest, dues[week]);
                lefts[week] = dues[week] - part;
                rest -= part;
            }
        }

        int dueUpTo(int last) {
            int all = 0;
            for (int week = 0; week <= last; week++) all += dues[week];
            return all;
        }

        int leftInAll() {
            int all = 0;
            for (int week = 0; week < weeks; week++) all += lefts[week];
            return all;
        }

        int firstLeft() {
            for (int week = 0; week < weeks; week++) {
                if (lefts[week] > 0) return week;
            }
            return NONE;
        }

        int interestUpTo(int last, int rate) {
            int all = 0;
            for (int week = 0; week <= last; week++) all += lefts[week] * rate / RATE_PARTS;
            return all;
        }
    }
}
