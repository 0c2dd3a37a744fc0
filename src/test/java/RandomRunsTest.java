import java.lang.reflect.Method;
import java.lang.reflect.Modifier;
import java.util.ArrayList;
import java.util.Arrays;
import java.util.Comparator;
import java.util.List;
import java.util.Random;

/** Runs of calls on BeforeThird and on the slow Model side by side, by fixed seeds. */
public final class RandomRunsTest extends Asking {
    private static final int RUNS = 400, CALLS = 512;
    private static final int[] EDGES = {
        Integer.MIN_VALUE, Integer.MIN_VALUE + 1, -100001, -1000, -100, -99, -3, -2, -1, 0, 1, 2, 3, 4, 5, 6, 7, 8, 10,
        11, 27, 28, 29, 30, 31, 40, 41, 60, 61, 98, 99, 100, 127, 128, 998, 999, 1000, 999999, 1000000,
        Integer.MAX_VALUE - 1, Integer.MAX_VALUE};
    private static final String[] TOKENS = {
        "account", "bill", "spend", "jar", "accounts", "bil", "a", ";", " ", "  ", "0", "5", "6", "28", "29", "30",
        "31", "99", "00", "09", "100", "0000", "-", "A", "\t", ":", "\u0000", "\u007f"};

    private final Random random;
    private final int run;
    private final BeforeThird real = new BeforeThird();
    private final Model model = new Model();
    private final StringBuilder log = new StringBuilder();

    private RandomRunsTest(int run) {
        this.run = run;
        this.random = new Random(run);
    }

    public static void main(String[] args) {
        List<Method> face = new ArrayList<>();
        for (Method m : BeforeThird.class.getDeclaredMethods()) {
            if (Modifier.isPublic(m.getModifiers())) {
                face.add(m);
            }
        }
        face.sort(Comparator.comparing(Method::getName));
        for (int run = 0; run < RUNS; run++) {
            new RandomRunsTest(run).go(face);
        }
        lastMonth();
        Due.end();
    }

    private void go(List<Method> face) {
        int made = 0;
        while (made < CALLS) {
            int before = made;
            if (random.nextInt(25) == 0) {
                made += typeText();
            }
            Method m = face.get(random.nextInt(face.size()));
            boolean starts = m.getName().equals("account") || m.getName().equals("read") || m.getName().equals("clear");
            if (!starts || random.nextInt(8) == 0) {
                made += both(m.getName(), arguments(m));
            }
            if (random.nextInt(30) == 0) {
                made += freshAccount();
            }
            if (random.nextInt(6) == 0) {
                made += both("bill", between(0, 5), between(1, 28), between(1, 99));
            }
            if (random.nextInt(4) == 0) {
                made += both("days", between(1, run % 4 == 0 ? 99 : 9));
            }
            if (random.nextInt(6) == 0 && model.count(0) > 0) {
                made += likelyNote();
            }
            if (made > before) {
                both("digest");
            }
        }
        for (int what = 0; what < 3; what++) {
            both("status", what);
        }
    }

    /** Pay and bills near one another, so that the account stays about 0, where answers differ most. */
    private int freshAccount() {
        both("account", between(0, random.nextBoolean() ? 40 : 999));
        int n = between(1, 3);
        for (int i = 0; i < n; i++) {
            both("bill", 5, between(1, 28), between(30, 99));
            both("bill", between(0, 4), between(1, 28), between(1, 60));
        }
        return 1 + 2 * n + both("spend", between(0, 3));
    }

    private int likelyNote() {
        int b = between(0, model.count(0) - 1);
        int kind = between(0, 5), d = between(1, 28), m = between(0, 40);
        int q = Model.poundsIn(kind, m, model.of(b, 2));
        both("note", b, d, Model.dayOn(kind, d), m, q);
        both("is", b);
        return 3 + both("look", b) - 1;
    }

    private int typeText() {
        String text = random.nextInt(3) == 0 ? noise() : grown();
        both("clear");
        for (char c : text.toCharArray()) {
            both("type", c);
        }
        return 2 + text.length() + both("read") - 1;
    }

    private String noise() {
        StringBuilder s = new StringBuilder("account 5;");
        int n = random.nextInt(12);
        for (int i = 0; i < n; i++) {
            s.append(TOKENS[random.nextInt(TOKENS.length)]);
        }
        return random.nextBoolean() ? s.toString() : s.substring(10);
    }

    private String grown() {
        StringBuilder s = new StringBuilder();
        s.append("account ").append(between(0, 99)).append(gap()).append(';').append(gap());
        int n = random.nextInt(10);
        for (int i = 0; i < n; i++) {
            switch (random.nextInt(4)) {
                case 0 -> s.append("spend").append(gap()).append(between(0, 31));
                case 1 -> s.append("jar ").append(between(0, 99));
                default -> s.append("bill ").append(between(0, 5)).append(' ').append(between(1, 28)).append("  ")
                    .append(between(1, 99));
            }
            s.append(gap()).append(';').append(gap());
        }
        if (random.nextInt(3) == 0) {
            s.setCharAt(random.nextInt(s.length()), TOKENS[random.nextInt(TOKENS.length)].charAt(0));
        }
        if (random.nextInt(4) == 0) {
            s.setLength(random.nextInt(s.length()));
        }
        return s.toString();
    }

    private String gap() {
        return " ".repeat(random.nextInt(4) == 0 ? 1 : 0);
    }

    private int between(int least, int most) {
        return least + random.nextInt(most - least + 1);
    }

    private int[] arguments(Method m) {
        int[] a = new int[m.getParameterCount()];
        for (int i = 0; i < a.length; i++) {
            a[i] = random.nextInt(5) == 0 ? EDGES[random.nextInt(EDGES.length)] : ordinary(m.getName(), i);
        }
        return a;
    }

    private int ordinary(String name, int i) {
        return switch (name) {
            case "account" -> between(0, 999);
            case "bill" -> i == 0 ? between(0, 5) : i == 1 ? between(1, 28) : between(1, 99);
            case "type" -> between(0, 127);
            case "spend" -> between(0, 30);
            case "jar" -> between(-99, 99);
            case "of", "monthly", "is", "look" -> i == 0 ? between(0, 6) : between(0, 4);
            case "now" -> between(0, 5);
            case "then", "low" -> i == 0 ? between(0, 99) : between(0, 1);
            case "note" -> i == 0 ? between(0, 6) : i == 3 ? between(0, 40) : i == 4 ? between(-99, 999) : between(1, 28);
            case "two" -> i == 0 ? between(1, 28) : between(-1, 3);
            case "boiler" -> i == 0 ? between(0, 999) : i == 1 ? between(0, 99) : between(0, 10);
            case "years" -> i == 0 ? between(0, 999999) : between(0, 60);
            case "part", "image", "from" -> between(0, 1);
            case "status" -> between(0, 2);
            case "count" -> between(0, 3);
            default -> between(1, 99);
        };
    }

    private int both(String name, int... a) {
        long want = call(model, name, a);
        log.append(' ').append(name).append(Arrays.toString(a));
        String tail = log.length() > 600 ? log.substring(log.length() - 600) : log.toString();
        Due.is("run " + run + ": .." + tail, call(real, name, a), want);
        return 1;
    }

    /** The calendar's end lies 283 calls away, where chance does not come. */
    private static void lastMonth() {
        RandomRunsTest t = new RandomRunsTest(-1);
        t.both("account", 999);
        t.both("bill", 2, 28, 40);
        t.both("bill", 5, 28, 99);
        t.both("bill", 4, 1, 9);
        for (int i = 0; i < 285; i++) {
            t.both("days", 99);
            t.both("digest");
        }
        for (String name : new String[] {"truly", "below", "move", "dear"}) {
            t.both(name);
        }
        for (int m = 1; m <= 99; m += 7) {
            t.both("then", m, 0);
            t.both("then", m, 1);
            t.both("low", m, 0);
            t.both("need", m);
            t.both("most", m);
        }
        t.both("monthly", 0);
        t.both("monthly", 2);
        t.both("years", 4, 60);
        t.both("undo");
        t.both("digest");
    }
}
