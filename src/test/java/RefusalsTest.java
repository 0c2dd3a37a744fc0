import java.util.Arrays;

/** What is refused: each number of each call at its edges and far beyond them, by reason, and in which order. */
public final class RefusalsTest extends Asking {
    private static final int MOST = Integer.MAX_VALUE, LEAST = Integer.MIN_VALUE;

    public static void main(String[] args) {
        numbers();
        severalWrongNumbers();
        jarNo();
        jarFromBelow();
        undoNo();
        fromNo();
        billFull();
        typeFull();
        noteFull();
        badAheadOfNo();
        badAheadOfFull();
        notRefused();
        belowNothing();
        countsEach();
        Due.end();
    }

    /** A number of a call: the sentence that tells it, which one it is, from where to where. */
    private record Told(String sentence, int which, int least, int most) {
    }

    /** A call with numbers that are as told on rich(), and what it answers if one isn't. */
    private static void numbersOf(String name, int[] good, int refused, Told... numbers) {
        for (Told told : numbers) {
            said(told.sentence());
            taken(name, changed(good, told.which(), told.least()));
            taken(name, changed(good, told.which(), told.most()));
            if (told.least() != LEAST) {
                refused(name, changed(good, told.which(), told.least() - 1), refused);
                refused(name, changed(good, told.which(), LEAST), refused);
            }
            if (told.most() != MOST) {
                refused(name, changed(good, told.which(), told.most() + 1), refused);
                refused(name, changed(good, told.which(), MOST), refused);
            }
        }
    }

    private static int[] changed(int[] numbers, int which, int value) {
        int[] changed = numbers.clone();
        changed[which] = value;
        return changed;
    }

    private static void taken(String name, int[] numbers) {
        BeforeThird x = rich();
        call(x, name, numbers);
        Due.is(name + Arrays.toString(numbers) + " is not BAD", x.status(0), 0);
        Due.is(name + Arrays.toString(numbers) + " is not FULL", x.status(2), 0);
    }

    private static void refused(String name, int[] numbers, int answer) {
        String what = name + Arrays.toString(numbers);
        BeforeThird x = rich();
        Due.is(what, call(x, name, numbers), answer);
        statuses(what, x, 1, 0, 0);
        Due.is(what + " again", call(x, name, numbers), answer);
        statuses(what + " again", x, 2, 0, 0);
        alike(what, x, rich());
    }

    private static Told told(String sentence, int which, int least, int most) {
        return new Told(sentence, which, least, most);
    }

    /** rich() has three bills, a note, four to undo and 16 bytes. */
    private static void numbers() {
        numbersOf("account", new int[] {5}, BAD, told("THE ACCOUNT (0 .. 999), all else as at first", 0, 0, 999));
        String bills = "a KIND, a DAY (1 .. 28), POUNDS (1 .. 99)";
        numbersOf("bill", new int[] {0, 1, 1}, BAD,
            told("5 PAY (under MOVED)", 0, 0, 5), told(bills, 1, 1, 28), told(bills, 2, 1, 99));
        numbersOf("type", new int[] {65}, BAD, told("A byte (0 .. 127) comes behind THE TEXT", 0, 0, 127));
        numbersOf("days", new int[] {1}, BAD, told("n DAYS go by (1 .. 99;", 0, 1, 99));
        numbersOf("spend", new int[] {1}, BAD, told("A DAY's spending (0 .. 30; 0 at first)", 0, 0, 30));
        numbersOf("jar", new int[] {1}, BAD, told("n (-99 .. 99) POUNDS go from THE ACCOUNT into THE JAR", 0, -99, 99));
        String of = "how much in this MONTH (4; it may be below 0). BAD: -10000.";
        numbersOf("of", new int[] {0, 0}, BAD_OF, told("Of a BILL: KIND (0)", 0, 0, 2), told(of, 1, 0, 4));
        numbersOf("now", new int[] {0}, FAR, told("spending (5); it may be below 0. BAD: -100000.", 0, 0, 5));
        numbersOf("then", new int[] {1, 0}, FAR,
            told("THE ACCOUNT behind m (0 .. 99) DAYS", 0, 0, 99), told("CHARGES (1). BAD: -100000.", 1, 0, 1));
        numbersOf("low", new int[] {1, 0}, FAR,
            told("LOW in m (1 .. 99) DAYS", 0, 1, 99), told("in how many (1). BAD: -100000.", 1, 0, 1));
        numbersOf("most", new int[] {1}, BAD, told("SPEND for m (1 .. 99) DAYS", 0, 1, 99));
        numbersOf("need", new int[] {1}, BAD, told("NEED for m DAYS", 0, 1, 99));
        numbersOf("monthly", new int[] {1}, FAR, told("MONTHLY (it may be below 0). BAD: -100000.", 0, 0, 2));
        String note = "told for DAY d (1 .. 28) a BILL was drawn on DAY e (1 .. 28) in MONTH m (0 .. 40), q (-999 .. 999)";
        numbersOf("note", new int[] {0, 1, 1, 0, 1}, BAD, told("A NOTE: how many there are. BAD;", 0, 0, 2),
            told(note, 1, 1, 28), told(note, 2, 1, 28), told(note, 3, 0, 40), told(note, 4, -999, 999));
        numbersOf("is", new int[] {0}, BAD, told("IS, as bits. BAD.", 0, 0, 2));
        numbersOf("look", new int[] {0}, BAD, told("LOOK. NONE. BAD.", 0, 0, 2));
        numbersOf("two", new int[] {1, 0}, BAD_TWO, told("more each DAY for m (1 .. 28) DAYS", 0, 1, 28),
            told("how many (k = NONE), the k-th. -5: not so many. BAD: -10.", 1, -1, MOST));
        numbersOf("boiler", new int[] {1, 1, 1}, BAD, told("b (0 .. 999) POUNDS are drawn at once", 0, 0, 999),
            told("CHARGES in the next m (0 .. 99) DAYS, in the mean", 1, 0, 99), told("by c of 10 (0 .. 10)", 2, 0, 10));
        numbersOf("years", new int[] {1, 1}, FAR,
            told("YEARS by a SEED (0 .. 999999)", 0, 0, 999999), told("n (0 .. 60) DAYS", 1, 0, 60));
        numbersOf("part", new int[] {0}, BAD, told("THE FRACTION: above (0), below (1). BAD.", 0, 0, 1));
        numbersOf("image", new int[] {0}, BAD, told("An IMAGE is kept: 1. BAD.", 0, 0, 1));
        numbersOf("from", new int[] {0}, BAD, told("It goes on from an IMAGE: 1. BAD;", 0, 0, 1));
        numbersOf("status", new int[] {0}, -1, told("-1: another what (counts as BAD)", 0, 0, 2));
        numbersOf("count", new int[] {0}, BAD, told("2 that may be undone, 3 bytes of THE TEXT. BAD.", 0, 0, 3));
    }

    private static void severalWrongNumbers() {
        said("(where others are told they count as these)");
        refused("bill", new int[] {6, 29, 100}, BAD);
        refused("bill", new int[] {-1, 0, 0}, BAD);
        refused("of", new int[] {3, 5}, BAD_OF);
        refused("then", new int[] {-1, 2}, FAR);
        refused("low", new int[] {0, -1}, FAR);
        refused("note", new int[] {3, 0, 29, 41, 1000}, BAD);
        refused("two", new int[] {29, -2}, BAD_TWO);
        refused("boiler", new int[] {1000, 100, 11}, BAD);
        refused("years", new int[] {1000000, 61}, FAR);
    }

    /** A call that is refused as NO or FULL: brought twice to the same place, once without it. */
    private static void refusedThere(String what, BeforeThird x, BeforeThird y, long answer, int reason) {
        Due.is(what, answer, reason);
        Due.is(what + ": BAD", x.status(0), y.status(0));
        Due.is(what + ": NO", x.status(1), y.status(1) + (reason == NO ? 1 : 0));
        Due.is(what + ": FULL", x.status(2), y.status(2) + (reason == FULL ? 1 : 0));
        alike(what, x, y);
    }

    private static BeforeThird jarOf(int pounds, int put) {
        BeforeThird x = with(pounds + put);
        x.image(0);
        x.image(1);
        x.jar(put);
        return x;
    }

    private static void jarNo() {
        said("POUNDS go from THE ACCOUNT into THE JAR (below 0: back): THE JAR.");
        Due.is("in", jarOf(9, 5).jar(4), 9);
        Due.is("back", jarOf(9, 5).jar(-4), 1);
        said("NO: there are not so many in it, THE ACCOUNT would be below 0 by it.");
        refusedAt("one too many out", 50, 20, -21);
        refusedAt("one too many in", 20, 50, 21);
        refusedAt("out of an empty one", 50, 0, -1);
        refusedAt("into it from nothing", 0, 50, 1);
        refusedAt("the most out", 0, 98, -99);
        refusedAt("the most in", 98, 0, 99);
        BeforeThird x = jarOf(20, 50);
        Due.is("all of the account", x.jar(20), 70);
        figures("all of it", x, 0, 70);
        Due.is("all of the jar", x.jar(-70), 0);
        figures("all of that", x, 70, 0);
        Due.is("the most in", jarOf(99, 0).jar(99), 99);
        Due.is("the most out", jarOf(0, 99).jar(-99), 0);
        Due.is("none of nothing", jarOf(0, 0).jar(0), 0);
    }

    private static void refusedAt(String what, int pounds, int put, int n) {
        BeforeThird x = jarOf(pounds, put);
        refusedThere(what, x, jarOf(pounds, put), x.jar(n), NO);
    }

    private static BeforeThird below() {
        BeforeThird x = with(30);
        x.bill(0, 1, 10);
        x.jar(25);
        x.days(1);
        return x;
    }

    private static void jarFromBelow() {
        said("THE ACCOUNT would be below 0 by it");
        figures("below", below(), -6, 25);
        BeforeThird x = below();
        refusedThere("into it", x, below(), x.jar(1), NO);
        x = below();
        Due.is("back, though not enough", x.jar(-5), 20);
        Due.is("it stays below, but not by it", x.now(ACCOUNT), -1);
        Due.is("back to nothing", x.jar(-1), 19);
        Due.is("back to nothing", x.now(ACCOUNT), 0);
        x = below();
        Due.is("nothing put is nothing by it", x.jar(0), 25);
        statuses("none is refused", x, 0, 0, 0);
    }

    private static void undoNo() {
        said("UNDO: the DAY then. NO: none may be.");
        BeforeThird x = new BeforeThird();
        refusedThere("a new one", x, new BeforeThird(), x.undo(), NO);
        x = jarOf(4, 5);
        x.undo();
        BeforeThird y = jarOf(4, 5);
        y.undo();
        refusedThere("all are undone", x, y, x.undo(), NO);
    }

    private static void fromNo() {
        said("It goes on from an IMAGE: 1. BAD; NO: none was kept.");
        BeforeThird x = below();
        refusedThere("none of 0", x, below(), x.from(0), NO);
        x = below();
        refusedThere("none of 1", x, below(), x.from(1), NO);
        x = below();
        x.image(1);
        BeforeThird y = below();
        y.image(1);
        refusedThere("none of 0, though of 1", x, y, x.from(0), NO);
    }

    /** Seven bills, six notes, 150 bytes, eight to undo, both images. */
    private static BeforeThird full() {
        BeforeThird x = with(500);
        for (int b = 0; b < 7; b++) {
            x.bill(b % 6, 4 * b + 1, 9);
        }
        for (int i = 0; i < 6; i++) {
            x.note(i, 1, 1, 0, 9);
        }
        for (int i = 0; i < 8; i++) {
            x.days(3 + i);
        }
        x.image(0);
        x.spend(1);
        x.image(1);
        type(x, "account 1;" + " ".repeat(140));
        return x;
    }

    private static void billFull() {
        said("A BILL: its number. BAD; FULL: 7.");
        counts("full", full(), 7, 6, 8, 150);
        BeforeThird x = full();
        refusedThere("an eighth bill", x, full(), x.bill(0, 1, 1), FULL);
    }

    private static void typeFull() {
        said("how many it has. BAD; FULL.");
        BeforeThird x = full();
        refusedThere("a 151st byte", x, full(), x.type(';'), FULL);
    }

    private static void noteFull() {
        said("A NOTE: how many there are. BAD; FULL: 6.");
        BeforeThird x = full();
        refusedThere("a seventh note", x, full(), x.note(0, 1, 1, 0, 9), FULL);
    }

    private static void badAheadOfNo() {
        said("Refused, changing nothing but STATUS, the first of: BAD -2 a number is not as told; NO -3 as told; FULL -4");
        BeforeThird x = with(5);
        Due.is("100 are not there, but no such number", x.jar(100), BAD);
        Due.is("nor are 100 in it", x.jar(-100), BAD);
        Due.is("image 2", x.from(2), BAD);
        Due.is("image -1", x.from(-1), BAD);
        statuses("all BAD", x, 4, 0, 0);
    }

    private static void badAheadOfFull() {
        said("the first of: BAD -2 a number is not as told; NO -3 as told; FULL -4");
        BeforeThird x = full();
        Due.is("a kind", x.bill(6, 1, 1), BAD);
        Due.is("a day", x.bill(0, 29, 1), BAD);
        Due.is("pounds", x.bill(0, 1, 100), BAD);
        Due.is("a byte", x.type(128), BAD);
        Due.is("no bill", x.note(7, 1, 1, 0, 0), BAD);
        Due.is("pounds", x.note(0, 1, 1, 0, 1000), BAD);
        statuses("all BAD", x, 6, 0, 0);
        alike("all stays", x, full());
    }

    private static void none(String sentence, BeforeThird x, long answer, int want) {
        said(sentence);
        Due.is("none", answer, want);
        statuses("that is no refusal", x, 0, 0, 0);
    }

    private static void notRefused() {
        BeforeThird x = with(0);
        none("BELOW. NONE.", x, x.below(), NONE);
        none("MOVE. NONE.", x, x.move(), NONE);
        none("DEAR. NONE.", x, x.dear(), NONE);
        x.bill(0, 1, 99);
        x.note(0, 1, 1, 0, 0);
        none("SPEND for m. NONE. BAD.", x, x.most(1), NONE);
        none("LOOK. NONE. BAD.", x, x.look(0), NONE);
        none("IS, as bits. BAD.", x, x.is(0), 0);
        x.spend(30);
        none("NEED. NONE. BAD.", x, x.need(99), NONE);
        none("-5: not so many.", x, x.two(1, 9), -5);
        none("-10 less the FAULT: all stays.", x, x.read(), -10);
        none("BOILER is THE FRACTION: 1. BAD.", x, x.boiler(0, 0, 0), 1);
    }

    /** Answers that look like a refusal, and are none. */
    private static void belowNothing() {
        for (int pounds = -2; pounds >= -12; pounds--) {
            BeforeThird x = with(0);
            x.spend(-pounds - 1);
            x.days(1);
            x.spend(0);
            said("THE ACCOUNT (0), THE JAR (1), CHARGES (2), DAY (3), MONTH (4), spending (5); it may be below 0.");
            Due.is("now", x.now(ACCOUNT), pounds);
            said("TRULY (it may be below 0).");
            Due.is("truly", x.truly(), pounds);
            said("THEN: THE ACCOUNT (0; it may be below 0)");
            Due.is("then", x.then(0, 0), pounds);
            said("LOW: how much (0; it may be below 0)");
            Due.is("low", x.low(1, 0), pounds - 1);
            said("YEARS (it may be below 0).");
            Due.is("years", x.years(0, 0), pounds);
            said("how much in this MONTH (4; it may be below 0)");
            x.bill(5, 1, -pounds);
            Due.is("of", x.of(0, 4), pounds);
            said("MONTHLY (it may be below 0).");
            Due.is("monthly", x.monthly(0), 24 * pounds);
            said("(each answer told so below is such a one)");
            statuses("none of them is", x, 0, 0, 0);
        }
    }

    private static void countsEach() {
        said("STATUS: BAD (0), NO (1), FULL (2).");
        BeforeThird x = full();
        for (int i = 1; i <= 30; i++) {
            x.days(0);
            x.jar(-1);
            x.type(32);
            statuses("each call is one", x, i, i, i);
        }
    }
}
