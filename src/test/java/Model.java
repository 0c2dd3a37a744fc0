import java.util.ArrayDeque;
import java.util.ArrayList;
import java.util.Deque;
import java.util.List;
import java.util.function.IntUnaryOperator;
import java.util.regex.Matcher;
import java.util.regex.Pattern;

/**
 * The document told a second time, as slowly and plainly as can be: every day is gone through one
 * by one and every choice is tried. It shares no code with BeforeThird; tests run both side by side.
 */
public final class Model {
    private static final int NONE = -1, BAD = -2, NO = -3, FULL = -4;

    record Bill(int kind, int day, int pounds) {
        int on() {
            return dayOn(kind, day);
        }

        int in(int month) {
            return poundsIn(kind, month, pounds);
        }
    }

    record Note(int b, int d, int e, int m, int q) {
    }

    record Figures(int account, int jar, int charges, int day, int month, int spending) {
    }

    record Image(Figures now, List<Bill> bills, List<Note> notes, List<Figures> past) {
    }

    record Course(int[] after, int charges) {
    }

    private Figures now = new Figures(0, 0, 0, 1, 0, 0);
    private List<Bill> bills = new ArrayList<>();
    private List<Note> notes = new ArrayList<>();
    private List<Figures> past = new ArrayList<>();
    private final Image[] images = new Image[2];
    private final StringBuilder text = new StringBuilder();
    private final int[] refused = new int[3];
    private long above = 0, under = 1;

    static int dayOn(int kind, int d) {
        return switch (kind) {
            case 1, 5 -> d == 28 ? 27 : d == 7 || d == 14 || d == 21 ? d + 1 : d;
            case 3 -> d <= 14 ? d + 14 : d - 14;
            default -> d;
        };
    }

    static int poundsIn(int kind, int m, int p) {
        return switch (kind) {
            case 2 -> m % 3 == 0 ? p : 0;
            case 4 -> m % 12 == 0 ? 10 * p : 0;
            case 5 -> -p;
            default -> p;
        };
    }

    private int bad(int answer) {
        refused[0]++;
        return answer;
    }

    private int no() {
        refused[1]++;
        return NO;
    }

    private int full() {
        refused[2]++;
        return FULL;
    }

    private static boolean out(int n, int least, int most) {
        return n < least || n > most;
    }

    private void keep() {
        past.add(now);
        if (past.size() > 8) {
            past.remove(0);
        }
    }

    private static Course course(List<Bill> bills, Figures from, int account, IntUnaryOperator spent, int n) {
        int[] after = new int[n];
        int charges = 0, day = from.day(), month = from.month();
        for (int i = 0; i < n; i++) {
            for (Bill b : bills) {
                if (b.on() == day) {
                    account -= b.in(month);
                }
            }
            account -= spent.applyAsInt(i);
            if (account < 0) {
                account--;
                charges++;
            }
            after[i] = account;
            day++;
            if (day == 29) {
                day = 1;
                month++;
            }
        }
        return new Course(after, charges);
    }

    private Course ahead(int n) {
        return course(bills, now, now.account(), i -> now.spending(), n);
    }

    private static boolean neverBelow(Course c) {
        for (int a : c.after()) {
            if (a < 0) {
                return false;
            }
        }
        return true;
    }

    public int account(int n) {
        if (out(n, 0, 999)) {
            return bad(BAD);
        }
        int had = bills.size();
        now = new Figures(n, 0, 0, 1, 0, 0);
        bills = new ArrayList<>();
        notes = new ArrayList<>();
        past = new ArrayList<>();
        return had;
    }

    public int bill(int kind, int day, int pounds) {
        if (out(kind, 0, 5) || out(day, 1, 28) || out(pounds, 1, 99)) {
            return bad(BAD);
        }
        if (bills.size() == 7) {
            return full();
        }
        bills.add(new Bill(kind, day, pounds));
        past.clear();
        return bills.size() - 1;
    }

    public int type(int c) {
        if (out(c, 0, 127)) {
            return bad(BAD);
        }
        if (text.length() == 150) {
            return full();
        }
        text.append((char) c);
        return text.length();
    }

    public int clear() {
        int had = text.length();
        text.setLength(0);
        return had;
    }

    public int read() {
        Matcher tokens = Pattern.compile("[a-z]+|[0-9]+|[^ ]", Pattern.DOTALL).matcher(text);
        Deque<int[]> due = new ArrayDeque<>();
        List<List<Integer>> items = new ArrayList<>();
        List<String> words = new ArrayList<>();
        int told = 0;
        while (tokens.find()) {
            String t = tokens.group();
            if (due.isEmpty()) {
                boolean stands = switch (t) {
                    case "account" -> words.isEmpty();
                    case "bill" -> !words.isEmpty() && told < 7;
                    case "spend", "jar" -> !words.isEmpty();
                    default -> false;
                };
                if (!stands) {
                    return -10 - tokens.start();
                }
                words.add(t);
                items.add(new ArrayList<>());
                switch (t) {
                    case "account", "jar" -> due.add(new int[] {0, 99});
                    case "spend" -> due.add(new int[] {0, 30});
                    default -> {
                        told++;
                        due.add(new int[] {0, 5});
                        due.add(new int[] {1, 28});
                        due.add(new int[] {1, 99});
                    }
                }
                due.add(new int[] {});
                continue;
            }
            int[] range = due.removeFirst();
            if (range.length == 0 ? !t.equals(";") : !t.matches("[0-9]{1,2}")
                || out(Integer.parseInt(t), range[0], range[1])) {
                return -10 - tokens.start();
            }
            if (range.length == 2) {
                items.get(items.size() - 1).add(Integer.parseInt(t));
            }
        }
        if (words.isEmpty() || !due.isEmpty()) {
            return -10 - text.length();
        }
        int pounds = 0, put = 0, spent = 0;
        bills = new ArrayList<>();
        notes = new ArrayList<>();
        past = new ArrayList<>();
        for (int i = 0; i < words.size(); i++) {
            List<Integer> n = items.get(i);
            switch (words.get(i)) {
                case "account" -> pounds = 10 * n.get(0);
                case "jar" -> put = n.get(0);
                case "spend" -> spent = n.get(0);
                default -> bills.add(new Bill(n.get(0), n.get(1), n.get(2)));
            }
        }
        now = new Figures(pounds, put, 0, 1, 0, spent);
        return words.size();
    }

    public int days(int n) {
        if (out(n, 1, 99)) {
            return bad(BAD);
        }
        keep();
        int before = now.charges();
        for (int i = 0; i < n; i++) {
            Course c = ahead(1);
            boolean stays = now.day() == 28 && now.month() == 999;
            int day = stays ? 28 : now.day() == 28 ? 1 : now.day() + 1;
            int month = now.day() == 28 && !stays ? now.month() + 1 : now.month();
            now = new Figures(c.after()[0], now.jar(), now.charges() + c.charges(), day, month, now.spending());
        }
        return now.charges() - before;
    }

    public int spend(int n) {
        if (out(n, 0, 30)) {
            return bad(BAD);
        }
        keep();
        int was = now.spending();
        now = new Figures(now.account(), now.jar(), now.charges(), now.day(), now.month(), n);
        return was;
    }

    public int jar(int n) {
        if (out(n, -99, 99)) {
            return bad(BAD);
        }
        if (n < 0 && now.jar() < -n) {
            return no();
        }
        if (n > 0 && now.account() < n) {
            return no();
        }
        keep();
        now = new Figures(now.account() - n, now.jar() + n, now.charges(), now.day(), now.month(), now.spending());
        return now.jar();
    }

    public int undo() {
        if (past.isEmpty()) {
            return no();
        }
        now = past.remove(past.size() - 1);
        return now.day();
    }

    public int of(int b, int what) {
        if (out(b, 0, bills.size() - 1) || out(what, 0, 4)) {
            return bad(-10000);
        }
        Bill x = bills.get(b);
        return new int[] {x.kind(), x.day(), x.pounds(), x.on(), x.in(now.month())}[what];
    }

    public int now(int what) {
        if (out(what, 0, 5)) {
            return bad(-100000);
        }
        return figures()[what];
    }

    private int[] figures() {
        return new int[] {now.account(), now.jar(), now.charges(), now.day(), now.month(), now.spending()};
    }

    public int truly() {
        int left = now.account();
        for (int day = now.day(); day <= 28; day++) {
            for (Bill b : bills) {
                left -= b.kind() != 5 && b.on() == day ? b.in(now.month()) : 0;
            }
        }
        return left;
    }

    public int then(int m, int what) {
        if (out(m, 0, 99) || out(what, 0, 1)) {
            return bad(-100000);
        }
        Course c = ahead(m);
        return what == 1 ? c.charges() : m == 0 ? now.account() : c.after()[m - 1];
    }

    public int low(int m, int what) {
        if (out(m, 1, 99) || out(what, 0, 1)) {
            return bad(-100000);
        }
        int[] after = ahead(m).after();
        int in = 1;
        for (int i = 2; i <= m; i++) {
            in = after[i - 1] < after[in - 1] ? i : in;
        }
        return what == 0 ? after[in - 1] : in;
    }

    public int below() {
        for (int m = 1; m <= 99; m++) {
            if (ahead(m).after()[m - 1] < 0) {
                return m;
            }
        }
        return NONE;
    }

    public int most(int m) {
        if (out(m, 1, 99)) {
            return bad(BAD);
        }
        for (int s = 30; s >= 0; s--) {
            int each = s;
            if (neverBelow(course(bills, now, now.account(), i -> each, m))) {
                return s;
            }
        }
        return NONE;
    }

    public int need(int m) {
        if (out(m, 1, 99)) {
            return bad(BAD);
        }
        for (int more = 0; more <= 999; more++) {
            if (neverBelow(course(bills, now, now.account() + more, i -> now.spending(), m))) {
                return more;
            }
        }
        return NONE;
    }

    private int chargesWith(List<Bill> others) {
        return course(others, now, now.account(), i -> now.spending(), 28).charges();
    }

    public int move() {
        int fewest = chargesWith(bills), best = NONE;
        for (int b = 0; b < bills.size(); b++) {
            for (int d = 1; d <= 28; d++) {
                List<Bill> others = new ArrayList<>(bills);
                others.set(b, new Bill(bills.get(b).kind(), d, bills.get(b).pounds()));
                int charges = chargesWith(others);
                if (d != bills.get(b).day() && charges < fewest) {
                    fewest = charges;
                    best = 100 * b + d;
                }
            }
        }
        return best;
    }

    public int monthly(int b) {
        if (out(b, 0, bills.size() - 1)) {
            return bad(-100000);
        }
        int sum = 0;
        for (int m = now.month(); m < now.month() + 12; m++) {
            sum += bills.get(b).in(m) - bills.get(b).pounds();
        }
        return sum;
    }

    public int dear() {
        int fewest = Integer.MAX_VALUE, best = NONE;
        for (int b = 0; b < bills.size(); b++) {
            List<Bill> others = new ArrayList<>(bills);
            others.remove(b);
            if (chargesWith(others) < fewest) {
                fewest = chargesWith(others);
                best = b;
            }
        }
        return best;
    }

    public int note(int b, int d, int e, int m, int q) {
        if (out(b, 0, bills.size() - 1) || out(d, 1, 28) || out(e, 1, 28) || out(m, 0, 40) || out(q, -999, 999)) {
            return bad(BAD);
        }
        if (notes.size() == 6) {
            return full();
        }
        notes.add(new Note(b, d, e, m, q));
        return notes.size();
    }

    public int forget() {
        int had = notes.size();
        notes.clear();
        return had;
    }

    private List<Integer> fitting(int b) {
        List<Integer> fit = new ArrayList<>();
        for (int k = 0; k < 6; k++) {
            int kind = k, p = bills.get(b).pounds();
            if (notes.stream().filter(n -> n.b() == b)
                .allMatch(n -> dayOn(kind, n.d()) == n.e() && poundsIn(kind, n.m(), p) == n.q())) {
                fit.add(k);
            }
        }
        return fit;
    }

    public int is(int b) {
        if (out(b, 0, bills.size() - 1)) {
            return bad(BAD);
        }
        return fitting(b).stream().mapToInt(k -> 1 << k).sum();
    }

    public int look(int b) {
        if (out(b, 0, bills.size() - 1)) {
            return bad(BAD);
        }
        List<Integer> fit = fitting(b);
        Bill x = bills.get(b);
        int best = NONE, fewest = 99;
        for (int m = 0; m <= 12 && !fit.isEmpty(); m++) {
            java.util.Map<List<Integer>, Integer> groups = new java.util.HashMap<>();
            for (int k : fit) {
                groups.merge(List.of(dayOn(k, x.day()), poundsIn(k, m, x.pounds())), 1, Integer::sum);
            }
            int alike = groups.values().stream().mapToInt(v -> v).max().getAsInt();
            if (alike < fewest) {
                fewest = alike;
                best = m;
            }
        }
        return best;
    }

    private int gain(int m, int own, int other) {
        return 3 * own - course(bills, now, now.account(), i -> now.spending() + own + other, m).charges();
    }

    public int two(int m, int k) {
        if (out(m, 1, 28) || k < -1) {
            return bad(-10);
        }
        List<Integer> rest = new ArrayList<>();
        for (int i = 0; i < 4; i++) {
            for (int j = 0; j < 4; j++) {
                boolean rests = true;
                for (int x = 0; x < 4; x++) {
                    rests &= gain(m, x, j) <= gain(m, i, j) && gain(m, x, i) <= gain(m, j, i);
                }
                if (rests) {
                    rest.add(4 * i + j);
                }
            }
        }
        return k == -1 ? rest.size() : k < rest.size() ? rest.get(k) : -5;
    }

    public int boiler(int b, int m, int c) {
        if (out(b, 0, 999) || out(m, 0, 99) || out(c, 0, 10)) {
            return bad(BAD);
        }
        long whole = ahead(m).charges();
        long burst = course(bills, now, now.account() - b, i -> now.spending(), m).charges();
        java.math.BigInteger top = java.math.BigInteger.valueOf(c * burst + (10 - c) * whole);
        long common = top.gcd(java.math.BigInteger.TEN).longValue();
        above = top.longValue() / common;
        under = 10 / common;
        return 1;
    }

    public int years(int seed, int n) {
        if (out(seed, 0, 999999) || out(n, 0, 60)) {
            return bad(-100000);
        }
        int[] spent = new int[n];
        java.math.BigInteger x = java.math.BigInteger.valueOf(seed);
        for (int i = 0; i < n; i++) {
            x = x.multiply(java.math.BigInteger.valueOf(1103515245)).add(java.math.BigInteger.valueOf(12345))
                .mod(java.math.BigInteger.valueOf(2147483648L));
            spent[i] = x.divide(java.math.BigInteger.valueOf(65536)).mod(java.math.BigInteger.valueOf(31)).intValue();
        }
        Course c = course(bills, now, now.account(), i -> spent[i], n);
        return n == 0 ? now.account() : c.after()[n - 1];
    }

    public long part(int what) {
        return what == 0 ? above : what == 1 ? under : bad(BAD);
    }

    public int image(int i) {
        if (out(i, 0, 1)) {
            return bad(BAD);
        }
        images[i] = new Image(now, List.copyOf(bills), List.copyOf(notes), List.copyOf(past));
        return 1;
    }

    public int from(int i) {
        if (out(i, 0, 1)) {
            return bad(BAD);
        }
        if (images[i] == null) {
            return no();
        }
        now = images[i].now();
        bills = new ArrayList<>(images[i].bills());
        notes = new ArrayList<>(images[i].notes());
        past = new ArrayList<>(images[i].past());
        return 1;
    }

    public int status(int what) {
        return out(what, 0, 2) ? bad(-1) : refused[what];
    }

    public int count(int what) {
        if (out(what, 0, 3)) {
            return bad(BAD);
        }
        return new int[] {bills.size(), notes.size(), past.size(), text.length()}[what];
    }

    public long digest() {
        List<Long> all = new ArrayList<>();
        for (int what = 0; what < 4; what++) {
            all.add((long) count(what));
        }
        for (int f : figures()) {
            all.add((long) f);
        }
        for (Bill b : bills) {
            all.addAll(List.of((long) b.kind(), (long) b.day(), (long) b.pounds()));
        }
        for (Note n : notes) {
            all.addAll(List.of((long) n.b(), (long) n.d(), (long) n.e(), (long) n.m(), (long) n.q()));
        }
        all.add(above);
        all.add(under);
        long h = 1373;
        for (long v : all) {
            h = 31 * h + v;
        }
        return h;
    }
}
