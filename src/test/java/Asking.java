import java.io.IOException;
import java.io.UncheckedIOException;
import java.lang.reflect.InvocationTargetException;
import java.lang.reflect.Method;
import java.nio.file.Files;
import java.nio.file.Path;
import java.util.Arrays;

/** What the tests have in common: how an object is brought somewhere, and how it is asked. */
abstract class Asking {
    static final int NONE = -1, BAD = -2, NO = -3, FULL = -4, FAR = -100000, BAD_OF = -10000, BAD_TWO = -10;
    static final int ACCOUNT = 0, JAR = 1, CHARGES = 2, DAY = 3, MONTH = 4, SPENDING = 5;
    private static final String DOCUMENT = document();

    private static String document() {
        try {
            return Files.readString(Path.of("../shared/DOC.md"));
        } catch (IOException e) {
            throw new UncheckedIOException(e);
        }
    }

    /** What is asked from here on belongs to this sentence; a test of a sentence that isn't there is none. */
    static void said(String sentence) {
        Due.under(sentence);
        Due.holds("the document says so", DOCUMENT.contains(sentence));
    }

    static BeforeThird with(int pounds) {
        BeforeThird x = new BeforeThird();
        x.account(pounds);
        return x;
    }

    static void type(BeforeThird x, String text) {
        x.clear();
        for (char c : text.toCharArray()) {
            x.type(c);
        }
    }

    /** Lets days go by, more than one call can, by as few calls as there can be. */
    static void pass(BeforeThird x, int n) {
        for (int left = n; left > 0; left -= 99) {
            x.days(Math.min(left, 99));
        }
    }

    static void figures(String what, BeforeThird x, int... want) {
        for (int i = 0; i < want.length; i++) {
            Due.is(what + ": now(" + i + ")", x.now(i), want[i]);
        }
    }

    static void counts(String what, BeforeThird x, int... want) {
        for (int i = 0; i < want.length; i++) {
            Due.is(what + ": count(" + i + ")", x.count(i), want[i]);
        }
    }

    static void statuses(String what, BeforeThird x, int bad, int no, int full) {
        Due.is(what + ": status(0)", x.status(0), bad);
        Due.is(what + ": status(1)", x.status(1), no);
        Due.is(what + ": status(2)", x.status(2), full);
    }

    static void fraction(String what, BeforeThird x, long above, long below) {
        Due.is(what + ": part(0)", x.part(0), above);
        Due.is(what + ": part(1)", x.part(1), below);
    }

    static long digestOf(long... values) {
        long h = 1373;
        for (long v : values) {
            h = 31 * h + v;
        }
        return h;
    }

    static long call(Object target, String name, int... a) {
        Class<?>[] types = new Class<?>[a.length];
        Object[] values = new Object[a.length];
        for (int i = 0; i < a.length; i++) {
            types[i] = int.class;
            values[i] = a[i];
        }
        try {
            Method m = target.getClass().getMethod(name, types);
            return ((Number) m.invoke(target, values)).longValue();
        } catch (InvocationTargetException e) {
            throw new AssertionError(name + Arrays.toString(a) + " threw", e.getCause());
        } catch (ReflectiveOperationException e) {
            throw new AssertionError(name + " is not there", e);
        }
    }

    /** An object with something of everything: bills, notes, a text, both images, a fraction, some to undo. */
    static BeforeThird rich() {
        BeforeThird x = with(40);
        x.bill(0, 2, 9);
        x.bill(5, 21, 60);
        x.bill(4, 28, 3);
        x.note(1, 7, 8, 0, -60);
        x.image(1);
        x.spend(2);
        x.days(13);
        x.image(0);
        x.jar(2);
        x.days(5);
        x.spend(3);
        x.boiler(30, 9, 3);
        type(x, "account 3;jar 4;");
        return x;
    }

    /** Whether two objects answer alike to all that changes nothing: of bills that are gone nothing may be left. */
    static void answerAlike(String what, BeforeThird x, BeforeThird y) {
        String[] names = {"truly", "below", "move", "dear", "digest"};
        for (String name : names) {
            Due.is(what + ": " + name, call(x, name), call(y, name));
        }
        for (int m : new int[] {1, 28, 99}) {
            for (String name : new String[] {"most", "need"}) {
                Due.is(what + ": " + name + " " + m, call(x, name, m), call(y, name, m));
            }
            for (String name : new String[] {"then", "low"}) {
                Due.is(what + ": " + name + " " + m, call(x, name, m, 0), call(y, name, m, 0));
                Due.is(what + ": " + name + " " + m, call(x, name, m, 1), call(y, name, m, 1));
            }
        }
        Due.is(what + ": two", x.two(28, 0), y.two(28, 0));
        Due.is(what + ": years", x.years(9, 60), y.years(9, 60));
        for (int b = 0; b < 7; b++) {
            Due.is(what + ": is " + b, x.is(b), y.is(b));
            Due.is(what + ": look " + b, x.look(b), y.look(b));
            Due.is(what + ": monthly " + b, x.monthly(b), y.monthly(b));
        }
    }

    /**
     * Whether two objects are alike in all that can be asked, what is hidden too: what may be undone, the
     * images, the text. It takes them apart: they are of no use after it. STATUS is left to the caller.
     */
    static void alike(String what, BeforeThird x, BeforeThird y) {
        Due.is(what + ": the digest", x.digest(), y.digest());
        for (int image = -1; image < 2; image++) {
            if (image >= 0) {
                Due.is(what + ": from image " + image, x.from(image), y.from(image));
            }
            for (int i = 0; i < 9; i++) {
                Due.is(what + ": undone " + i + " of image " + image, x.undo(), y.undo());
                Due.is(what + ": the digest behind it", x.digest(), y.digest());
            }
        }
        Due.is(what + ": the text read", x.read(), y.read());
        Due.is(what + ": the digest of it", x.digest(), y.digest());
    }
}
