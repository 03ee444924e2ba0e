import java.util.ArrayDeque;
import java.util.ArrayList;
import java.util.Arrays;
import java.util.Comparator;
import java.util.Deque;
import java.util.List;
import java.util.TreeMap;
import java.util.regex.Matcher;
import java.util.regex.Pattern;

/**
 * The document a second time, by other means (lists sorted, pays poured line by line into weeks, texts split by
 * patterns), so that a slip in one of the two shows. It takes the arguments of a call as a row.
 */
final class Model {
    static final int BAD = ChildPay.BAD, NO = ChildPay.NO, FULL = ChildPay.FULL, NONE = ChildPay.NONE,
            NOTHING = ChildPay.NOTHING, INDEX = ChildPay.INDEX, SIZE = ChildPay.SIZE;

    private record Statute(int number, int from, TreeMap<String, Integer> parts) { }

    private record Line(int number, int week, int coins, int mark) { }

    private static final class Told {
        int number, kind, v, from, told, back = NONE;
    }

    private final List<Told> changes = new ArrayList<>();
    private final List<Statute> laws = new ArrayList<>();
    private final List<Line> lines = new ArrayList<>();
    private final Integer[] school = new Integer[120];
    private final byte[][] sheets = new byte[2][];
    private final boolean[] forgiven = new boolean[120];
    private String tape = "";
    private int now, rate, marks = 1;

    int ask(String call, int[] a) {
        switch (call) {
            case "change": return change(a[0], a[1], a[2]);
            case "isOf": return isOf(a[0], a[1]);
            case "takeBack": return takeBack(a[0]);
            case "told": return told(a[0], a[1]);
            case "known": return in(a[0], 0, now) && in(a[1], 0, 119) && in(a[2], 0, 2) ? known(a[0], a[1], a[2]) : BAD;
            case "school": return school(a[0], a[1]);
            case "nights": return nights(a[0], a[1]);
            case "feed": return feed(a);
            case "trim": return trim(a[0]);
            case "law": return law(a[0]);
            case "inForce": return in(a[0], 0, 119) ? number(inForce(a[0])) : BAD;
            case "sum": return in(a[0], 0, 119) && in(a[1], 0, 7) && in(a[2], 0, now) ? sum(a[0], a[1], a[2]) : BAD;
            case "due": return in(a[0], 0, 119) && in(a[1], 0, 1) && in(a[2], 0, now) ? due(a[0], a[1], a[2]) : BAD;
            case "edge": return in(a[0], 0, 119) && in(a[1], 0, 6) ? sum(a[0], a[1], now) - sum(a[0], a[1] + 1, now) : BAD;
            default: return askPays(call, a);
        }
    }

    private int askPays(String call, int[] a) {
        boolean sided = a.length > 1 && in(a[0], 0, 1) && in(a[1], 0, now);
        switch (call) {
            case "line": return line(a[0], a[1], a[2]);
            case "marks": return marks(a[0]);
            case "paid": return in(a[0], 0, 119) && in(a[1], 0, 1) ? paid(a[0], a[1]) : BAD;
            case "owed": return sided ? Arrays.stream(pour(a[0], a[1], a[1]).left).sum() : BAD;
            case "over": return sided ? pour(a[0], a[1], a[1]).over : BAD;
            case "left": return in(a[1], 0, 1) && in(a[2], 0, now) && in(a[0], 0, a[2]) ? pour(a[1], a[2], a[2]).left[a[0]] : BAD;
            case "oldest": return sided ? pour(a[0], a[1], a[1]).oldest() : BAD;
            case "payer": return in(a[0], 0, now) && in(a[1], 0, 1) ? pour(a[1], now, now).last[a[0]] : BAD;
            case "interest": return sided ? interest(a[0], a[1]) : BAD;
            case "forgive": return forgive(a[0], a[1]);
            case "rate": return rate(a[0]);
            case "weeks": return in(a[0], 1, 60) && now + a[0] <= 119 ? now += a[0] : BAD;
            case "sheet": return sheet(a[0], a[1]);
            case "mark": return mark(a[0], a[1], a[2]);
            case "copy": return copy(a[0], a[1], a[2], a[3], a[4]);
            case "lose": return lose(a[0]);
            case "count": return count(a[0]);
            default: throw new IllegalStateException(call);
        }
    }

    private static boolean in(int v, int least, int most) {
        return v >= least && v <= most;
    }

    private int change(int kind, int v, int from) {
        boolean fits = kind == 0 ? in(v, 0, 5) : kind == 2 ? Math.abs((long) v) == 1 : in(kind, 1, 3) && in(v, 0, 100000);
        if (!fits || !in(from, 0, 119)) return BAD;
        if (changes.size() == 80) return FULL;
        Told t = new Told();
        t.number = changes.size();
        t.kind = kind;
        t.v = v;
        t.from = from;
        t.told = now;
        changes.add(t);
        return t.number;
    }

    private int isOf(int change, int kind) {
        if (!in(change, 0, changes.size() - 1) || !in(kind, 0, 3)) return BAD;
        int[][] of = {{0}, {0, 1}, {0, 2}, {0, 1, 3}};
        return Arrays.stream(of[changes.get(change).kind]).anyMatch(k -> k == kind) ? 1 : 0;
    }

    private int takeBack(int change) {
        if (!in(change, 0, changes.size() - 1)) return BAD;
        if (changes.get(change).back != NONE) return NO;
        changes.get(change).back = now;
        return 1;
    }

    private int told(int change, int what) {
        if (!in(change, 0, changes.size() - 1) || !in(what, 0, 4)) return BAD;
        Told t = changes.get(change);
        return new int[] {t.kind, t.v, t.from, t.told, t.back}[what];
    }

    private int known(int k, int week, int what) {
        List<Told> holding = new ArrayList<>();
        for (Told t : changes) {
            if (t.told > k || t.from > week) continue;
            if (t.back != NONE && t.back <= k) continue;
            holding.add(t);
        }
        if (what == 1) return Math.max(0, Math.min(4, holding.stream().filter(t -> t.kind == 2).mapToInt(t -> t.v).sum()));
        if (what == 2) return last(holding, 0, 0);
        return last(holding, 3, last(holding, 1, 0));
    }

    private static int last(List<Told> of, int kind, int without) {
        Comparator<Told> order = Comparator.<Told>comparingInt(t -> t.from).thenComparingInt(t -> t.number);
        return of.stream().filter(t -> t.kind == kind).max(order).map(t -> t.v).orElse(without);
    }

    private int school(int week, int n) {
        if (!in(week, 0, 119) || (n != NONE && !in(n, 0, 7))) return BAD;
        int was = school[week] == null ? NONE : school[week];
        school[week] = n == NONE ? null : n;
        return was;
    }

    /** The NIGHTS that are told, as a sorted row of one or two. */
    private int[] ends(int week) {
        if (school[week] != null) return new int[] {school[week]};
        int[] told = Arrays.stream(sheets).filter(s -> s != null && s.length > week).mapToInt(s -> s[week]).filter(n -> in(n, 0, 7)).sorted().toArray();
        return told.length == 0 ? new int[1] : told;
    }

    private int nights(int week, int what) {
        if (!in(week, 0, 119) || !in(what, 0, 2)) return BAD;
        int[] ends = ends(week);
        return what == 0 ? ends[0] : what == 1 ? ends[ends.length - 1] : ends[0] != ends[ends.length - 1] ? 1 : 0;
    }

    private int feed(int[] abc) {
        if (tape.length() + 12 > 72) return FULL;
        StringBuilder more = new StringBuilder(tape);
        for (int n : abc) {
            for (byte b : java.nio.ByteBuffer.allocate(4).putInt(n).array()) more.append((char) (b & 255));
        }
        tape = more.toString();
        return tape.length();
    }

    private int trim(int n) {
        if (!in(n, 0, tape.length())) return BAD;
        tape = tape.substring(0, n);
        return n;
    }

    private int law(int from) {
        String text = tape;
        tape = "";
        if (!in(from, 0, 119)) return BAD;
        TreeMap<String, Integer> parts = new TreeMap<>();
        int fault = parse(text, parts);
        if (fault >= 0) return -100 - fault;
        if (laws.size() == 8) return FULL;
        laws.add(new Statute(laws.size(), from, parts));
        return laws.size() - 1;
    }

    private static final String[] FORM = {"take", "over", "take", "night", "other", "least", "most"};
    private static final int[] LOW = {0, 1, 0, 0, 0, 0, 1};
    private static final int[] TOP = {60, 100000, 60, 14, 20, 100000, 100000};

    /** Goes through the form's seven pairs of a word and a number; the place of the first fault, or -1. */
    private static int parse(String text, TreeMap<String, Integer> parts) {
        List<String> words = new ArrayList<>();
        List<Integer> places = new ArrayList<>();
        Matcher m = Pattern.compile("[^ ]+", Pattern.DOTALL).matcher(text);
        while (m.find()) {
            words.add(m.group());
            places.add(m.start());
        }
        places.add(text.length());
        int at = 0;
        for (int i = 0; i < FORM.length; i++) {
            boolean needed = i == 0 || (i == 2 && parts.containsKey("1"));
            boolean here = at < words.size() && words.get(at).equals(FORM[i]) && (i != 2 || needed);
            if (!here && needed) return places.get(at);
            if (!here) continue;
            at++;
            if (at == words.size() || !words.get(at).matches("[0-9]+")) return places.get(at);
            long value = Long.parseLong("0" + words.get(at).replaceFirst("^0+", "").replaceFirst("(.{12}).*", "$1"));
            long least = i == 6 ? Math.max(1, parts.getOrDefault("5", 0)) : LOW[i];
            if (value < least || value > TOP[i]) return places.get(at);
            parts.put("" + i, (int) value);
            at++;
        }
        return at < words.size() ? places.get(at) : -1;
    }

    private Statute inForce(int week) {
        Comparator<Statute> order = Comparator.<Statute>comparingInt(Statute::from).thenComparingInt(Statute::number);
        return laws.stream().filter(l -> l.from <= week).max(order).orElse(null);
    }

    private static int number(Statute law) {
        return law == null ? NONE : law.number;
    }

    private int sum(int week, int n, int k) {
        Statute law = inForce(week);
        int children = known(k, week, 1);
        if (law == null || children == 0) return 0;
        TreeMap<String, Integer> p = law.parts;
        long income = known(k, week, 0);
        long less = income;
        for (int i = 0; i < known(k, week, 2); i++) less -= income * p.getOrDefault("4", 0) / 100;
        less = Math.max(less, 0);
        long amount = less * p.get("0") / 100;
        if (p.containsKey("1") && less > p.get("1")) {
            amount = (long) p.get("1") * p.get("0") / 100 + (less - p.get("1")) * p.get("2") / 100;
        }
        amount = amount * new int[] {100, 150, 180, 200}[children - 1] / 100;
        long paid = amount;
        for (int i = 0; i < n; i++) paid = Math.max(0, paid - amount * p.getOrDefault("3", 0) / 100);
        paid = Math.max(paid, p.getOrDefault("5", 0));
        return (int) (p.containsKey("6") ? Math.min(paid, p.get("6")) : paid);
    }

    private int due(int week, int side, int k) {
        if (forgiven[week]) return 0;
        int[] sums = Arrays.stream(ends(week)).map(n -> sum(week, n, k)).sorted().toArray();
        return side == 0 ? sums[0] : sums[sums.length - 1];
    }

    private int line(int week, int coins, int mark) {
        if (!in(week, 0, now) || !in(coins, 1, 1000000) || !in(mark, 0, 9)) return BAD;
        if (lines.size() == 100) return FULL;
        lines.add(new Line(lines.size(), week, coins, mark));
        return lines.size() - 1;
    }

    private int marks(int set) {
        if (!in(set, 0, 1023)) return BAD;
        int was = marks;
        marks = set;
        return was;
    }

    private boolean isPay(Line l) {
        return new StringBuilder(Integer.toBinaryString(1024 | marks)).reverse().charAt(l.mark) == '1';
    }

    private int paid(int week, int what) {
        return lines.stream().filter(l -> l.week == week && isPay(l) == (what == 0)).mapToInt(Line::coins).sum();
    }

    private static final class Poured {
        int[] left;
        int[] last;
        int over;

        int oldest() {
            for (int w = 0; w < left.length; w++) {
                if (left[w] > 0) return w;
            }
            return NONE;
        }
    }

    /** Pours the PAYS of WEEKS up to x, line by line, into the WEEKS up to k. */
    private Poured pour(int side, int k, int x) {
        int[] dues = new int[k + 1];
        for (int w = 0; w <= k; w++) dues[w] = due(w, side, k);
        return pour(dues, x);
    }

    private Poured pour(int[] dues, int x) {
        Poured p = new Poured();
        p.left = dues.clone();
        p.last = new int[dues.length];
        Arrays.fill(p.last, NONE);
        Deque<Integer> open = new ArrayDeque<>();
        for (int w = 0; w < dues.length; w++) {
            if (dues[w] > 0) open.add(w);
        }
        List<Line> pays = new ArrayList<>(lines);
        pays.removeIf(l -> l.week > x || !isPay(l));
        pays.sort(Comparator.comparingInt(Line::week).thenComparingInt(Line::number));
        for (Line l : pays) {
            int coins = l.coins;
            while (coins > 0 && !open.isEmpty()) {
                int w = open.peek();
                int part = Math.min(coins, p.left[w]);
                p.left[w] -= part;
                coins -= part;
                if (p.left[w] > 0) continue;
                p.last[w] = l.number;
                open.remove();
            }
            p.over += coins;
        }
        return p;
    }

    private int interest(int side, int k) {
        int[] dues = new int[k + 1];
        for (int w = 0; w <= k; w++) dues[w] = due(w, side, k);
        long all = 0;
        for (int x = 0; x <= k; x++) {
            int[] left = pour(dues, x).left;
            for (int w = 0; w <= k; w++) {
                if (x >= w + 4) all += (long) left[w] * rate / 10000;
            }
        }
        return (int) all;
    }

    private int forgive(int week, int on) {
        if (!in(week, 0, 119) || !in(on, 0, 1)) return BAD;
        boolean was = forgiven[week];
        forgiven[week] = on == 1;
        return was ? 1 : 0;
    }

    private int rate(int v) {
        if (!in(v, 0, 500)) return BAD;
        int was = rate;
        rate = v;
        return was;
    }

    private int sheet(int s, int n) {
        if (!in(s, 0, 1) || n > 120) return BAD;
        if (n < 0) return SIZE;
        sheets[s] = new byte[n];
        return n;
    }

    private int mark(int s, int place, int v) {
        if (!in(s, 0, 1)) return BAD;
        if (sheets[s] == null) return NOTHING;
        if (!in(place, 0, sheets[s].length - 1)) return INDEX;
        int was = sheets[s][place];
        sheets[s][place] = (byte) v;
        return was;
    }

    private int copy(int from, int place, int to, int at, int many) {
        if (!in(from, 0, 1) || !in(to, 0, 1)) return BAD;
        if (sheets[from] == null || sheets[to] == null) return NOTHING;
        try {
            System.arraycopy(sheets[from], place, sheets[to], at, many);
        } catch (IndexOutOfBoundsException e) {
            return INDEX;
        }
        return many;
    }

    private int lose(int s) {
        if (!in(s, 0, 1)) return BAD;
        if (sheets[s] == null) return NOTHING;
        int had = sheets[s].length;
        sheets[s] = null;
        return had;
    }

    private int count(int what) {
        switch (what) {
            case 0: return changes.size();
            case 1: return (int) changes.stream().filter(t -> t.back == NONE).count();
            case 2: return laws.size();
            case 3: return lines.size();
            case 4: return now;
            case 5:
            case 6: {
                int many = 0;
                for (int w = 0; w < 120; w++) {
                    if (what == 5 ? forgiven[w] : w <= now && nights(w, 0) != nights(w, 1)) many++;
                }
                return many;
            }
            case 7: return tape.length();
            default: return BAD;
        }
    }
}
