import java.math.BigInteger;
import java.util.ArrayList;
import java.util.List;

/** The boundary cases that the document's terms name: the calendar, the kinds, a day that goes by, undo, images. */
public final class TermsTest extends Asking {
    public static void main(String[] args) {
        newObject();
        firstDay();
        monthsEnd();
        lastDayOfAll();
        undoOnTheLastDay();
        atFirst();
        sevenBills();
        sundays();
        cards();
        plainDays();
        quarters();
        years();
        pay();
        drawnOnThatDayAlone();
        belowNothing();
        orderWithinADay();
        accountAnew();
        spendingTold();
        daysTogether();
        undone();
        eightAtMost();
        behindABill();
        images();
        imagesStandApart();
        imageOfNothing();
        statusOutlives();
        fractionAtFirst();
        digests();
        Due.end();
    }

    private static void newObject() {
        said("As told; no BILLS.");
        BeforeThird x = new BeforeThird();
        figures("new", x, 0, 0, 0, 1, 0, 0);
        counts("new", x, 0, 0, 0, 0);
        fraction("new", x, 0, 1);
        statuses("new", x, 0, 0, 0);
        Due.is("no bill 0", x.of(0, 0), BAD_OF);
        Due.is("nothing to undo", x.undo(), NO);
        Due.is("no image 0", x.from(0), NO);
        Due.is("no image 1", x.from(1), NO);
        Due.is("an empty text", x.read(), -10);
        x.account(999);
        x.bill(0, 1, 1);
        x.type('a');
        x.image(0);
        BeforeThird other = new BeforeThird();
        figures("another one knows nothing of it", other, 0, 0, 0, 1, 0, 0);
        counts("another one knows nothing of it", other, 0, 0, 0, 0);
        Due.is("nor of its image", other.from(0), NO);
    }

    private static void firstDay() {
        said("28 each (DAY 1 at first)");
        BeforeThird x = new BeforeThird();
        Due.is("the day", x.now(DAY), 1);
        Due.is("the month", x.now(MONTH), 0);
        for (int day = 2; day <= 28; day++) {
            x.days(1);
            Due.is("the day", x.now(DAY), day);
            Due.is("the month", x.now(MONTH), 0);
        }
    }

    private static void monthsEnd() {
        said("The DAY is one more (28: DAY 1 of the next MONTH;");
        BeforeThird x = new BeforeThird();
        x.days(27);
        x.days(1);
        Due.is("behind day 28", x.now(DAY), 1);
        Due.is("the month behind it", x.now(MONTH), 1);
        x.days(56);
        Due.is("two months on", x.now(DAY), 1);
        Due.is("two months on", x.now(MONTH), 3);
        x.days(99);
        Due.is("99 on", x.now(DAY), 16);
        Due.is("99 on", x.now(MONTH), 6);
    }

    private static void lastDayOfAll() {
        said("of MONTH 999 DAY 28 is the last: it comes again and again");
        BeforeThird x = with(999);
        pass(x, 999 * 28 + 26);
        figures("a day ahead of it", x, 999, 0, 0, 27, 999, 0);
        x.days(1);
        figures("the last", x, 999, 0, 0, 28, 999, 0);
        x.bill(0, 28, 1);
        x.bill(2, 28, 2);
        x.bill(3, 14, 4);
        x.bill(4, 28, 99);
        x.bill(1, 28, 50);
        x.bill(5, 28, 60);
        x.bill(0, 1, 70);
        // On 28 the plain one, the quarter (3 divides 999) and the card are drawn; 12 doesn't divide 999,
        // and the moved one, pay and the first's are drawn on other days.
        x.days(1);
        figures("it comes again", x, 992, 0, 0, 28, 999, 0);
        x.days(1);
        figures("and again", x, 985, 0, 0, 28, 999, 0);
        x.days(99);
        figures("and again", x, 292, 0, 0, 28, 999, 0);
        x.spend(30);
        Due.is("charges on it", x.days(9), 2);
        figures("spending and charges, too", x, 292 - 9 * 37 - 2, 0, 2, 28, 999, 30);
    }

    private static void undoOnTheLastDay() {
        said("UNDO: THE ACCOUNT, THE JAR, CHARGES, DAY, MONTH, spending as ahead of the last DAYS gone by");
        BeforeThird x = with(50);
        pass(x, 999 * 28 + 26);
        x.bill(0, 28, 8);
        x.days(2);
        x.days(3);
        figures("the last day, five times", x, 50 - 4 * 8, 0, 0, 28, 999, 0);
        Due.is("undone to the last", x.undo(), 28);
        figures("once", x, 42, 0, 0, 28, 999, 0);
        Due.is("undone to the day ahead of it", x.undo(), 27);
        figures("not yet", x, 50, 0, 0, 27, 999, 0);
    }

    private static void atFirst() {
        said("THE ACCOUNT (it may be below 0; 0 at first), THE JAR (0 at first), CHARGES (0 at first; in pounds), "
            + "A DAY's spending (0 .. 30; 0 at first)");
        BeforeThird x = new BeforeThird();
        figures("at first", x, 0, 0, 0, 1, 0, 0);
        x.spend(30);
        x.days(1);
        Due.is("below 0", x.now(ACCOUNT), -31);
        Due.is("a pound of charges", x.now(CHARGES), 1);
        x.days(99);
        Due.is("far below 0", x.now(ACCOUNT), -3100);
    }

    private static void sevenBills() {
        said("BILLS 0 .. 6, as they come");
        BeforeThird x = new BeforeThird();
        for (int b = 0; b < 7; b++) {
            Due.is("the number", x.bill(b % 6, 28 - b, 99 - b), b);
        }
        Due.is("no eighth", x.bill(0, 1, 1), FULL);
        for (int b = 0; b < 7; b++) {
            Due.is("the kind of " + b, x.of(b, 0), b % 6);
            Due.is("the day of " + b, x.of(b, 1), 28 - b);
            Due.is("the pounds of " + b, x.of(b, 2), 99 - b);
        }
        Due.is("no bill 7", x.of(7, 0), BAD_OF);
        Due.is("no bill -1", x.of(-1, 0), BAD_OF);
        x.account(0);
        Due.is("none is left", x.of(0, 0), BAD_OF);
        Due.is("0 comes first again", x.bill(3, 4, 5), 0);
        Due.is("nor is the second", x.of(1, 0), BAD_OF);
        x = with(99);
        for (int b = 0; b < 7; b++) {
            x.bill(0, 1, 10 + b);
        }
        x.days(1);
        Due.is("all seven on one day", x.now(ACCOUNT), 99 - 91);
    }

    /** On which day a bill of this kind is drawn, for each day that it can be told for. */
    private static void drawnOn(int kind, int... want) {
        for (int d = 1; d <= 28; d++) {
            BeforeThird x = new BeforeThird();
            x.bill(kind, d, 1);
            Due.is("kind " + kind + " told for " + d, x.of(0, 3), want[d - 1]);
        }
    }

    private static final int[] SUNDAYS_MOVED = {
        1, 2, 3, 4, 5, 6, 8, 8, 9, 10, 11, 12, 13, 15, 15, 16, 17, 18, 19, 20, 22, 22, 23, 24, 25, 26, 27, 27};
    private static final int[] AS_TOLD = {
        1, 2, 3, 4, 5, 6, 7, 8, 9, 10, 11, 12, 13, 14, 15, 16, 17, 18, 19, 20, 21, 22, 23, 24, 25, 26, 27, 28};
    private static final int[] LATER_BY_14 = {
        15, 16, 17, 18, 19, 20, 21, 22, 23, 24, 25, 26, 27, 28, 1, 2, 3, 4, 5, 6, 7, 8, 9, 10, 11, 12, 13, 14};

    private static void sundays() {
        said("a DAY that 7 divides is a SUNDAY");
        drawnOn(1, SUNDAYS_MOVED);
        said("1 later than PLAIN, if PLAIN's is a SUNDAY (28: 1 earlier)");
        drawnOn(1, SUNDAYS_MOVED);
        said("5 PAY (under MOVED): as MOVED");
        drawnOn(5, SUNDAYS_MOVED);
    }

    private static void cards() {
        said("14 later than PLAIN, less 28, if that is more than 28");
        drawnOn(3, LATER_BY_14);
    }

    private static void plainDays() {
        said("0 PLAIN: d; p.");
        drawnOn(0, AS_TOLD);
        said("2 QUARTER (under PLAIN): as PLAIN");
        drawnOn(2, AS_TOLD);
        said("4 YEARLY (under QUARTER): as QUARTER");
        drawnOn(4, AS_TOLD);
    }

    /** How much in the months 0 .. 25, by what two ways tell it: asked, and drawn. */
    private static void drawnInMonths(int kind, int pounds, int... want) {
        BeforeThird x = with(999);
        x.bill(kind, 15, pounds);
        for (int m = 0; m <= 25; m++) {
            Due.is("kind " + kind + " in month " + m, x.of(0, 4), want[m % want.length]);
            int before = x.now(ACCOUNT);
            x.days(28);
            Due.is("kind " + kind + " drawn in month " + m, before - x.now(ACCOUNT), want[m % want.length]);
        }
    }

    private static void quarters() {
        said("as PLAIN in MONTHS that leave 0 by 3, else 0");
        drawnInMonths(2, 7, 7, 0, 0);
    }

    private static void years() {
        said("ten times QUARTER in MONTHS that leave 0 by 12, else 0");
        drawnInMonths(4, 7, 70, 0, 0, 0, 0, 0, 0, 0, 0, 0, 0, 0);
        BeforeThird x = with(999);
        x.bill(4, 1, 99);
        x.days(1);
        Due.is("the most that one draws", x.now(ACCOUNT), 9);
    }

    private static void pay() {
        said("0 less MOVED (it comes)");
        drawnInMonths(5, 99, -99);
        drawnInMonths(5, 1, -1);
        said("as PLAIN. 2 QUARTER");
        drawnInMonths(0, 9, 9);
        drawnInMonths(1, 9, 9);
        drawnInMonths(3, 9, 9);
    }

    private static void drawnOnThatDayAlone() {
        said("all BILLS drawn on it are (THE ACCOUNT is so much less)");
        int[][] on = {AS_TOLD, SUNDAYS_MOVED, AS_TOLD, LATER_BY_14, AS_TOLD, SUNDAYS_MOVED};
        int[] pounds = {3, 3, 3, 3, 30, -3};
        for (int kind = 0; kind < 6; kind++) {
            for (int d = 1; d <= 28; d++) {
                BeforeThird x = with(500);
                x.bill(kind, d, 3);
                int due = on[kind][d - 1];
                x.days(due);
                Due.is("kind " + kind + " told for " + d + ", behind it", x.now(ACCOUNT), 500 - pounds[kind]);
                x.undo();
                if (due > 1) {
                    x.days(due - 1);
                    Due.is("kind " + kind + " told for " + d + ", ahead of it", x.now(ACCOUNT), 500);
                }
            }
        }
    }

    private static void belowNothing() {
        said("then, if THE ACCOUNT is below 0, it is 1 less, CHARGES are 1 more");
        BeforeThird x = with(10);
        x.bill(0, 1, 10);
        Due.is("nothing is not below", x.days(1), 0);
        figures("nothing", x, 0, 0, 0);
        x = with(9);
        x.bill(0, 1, 10);
        Due.is("1 below is", x.days(1), 1);
        figures("1 below", x, -2, 0, 1);
        Due.is("so is the next day", x.days(1), 1);
        figures("each day that it is below", x, -3, 0, 2);
        x = with(5);
        x.spend(5);
        Due.is("spent to nothing", x.days(1), 0);
        x.undo();
        x.spend(6);
        Due.is("spent below it", x.days(1), 1);
        Due.is("spent below it", x.now(ACCOUNT), -2);
        x = with(0);
        x.bill(0, 1, 1);
        x.bill(5, 2, 2);
        Due.is("back to nothing by pay", x.days(2), 1);
        figures("by pay", x, 0, 0, 1);
        x = with(0);
        x.bill(0, 1, 1);
        x.bill(5, 2, 1);
        Due.is("a pound too few", x.days(2), 2);
        figures("a pound too few", x, -2, 0, 2);
    }

    private static void orderWithinADay() {
        said("all BILLS drawn on it are (THE ACCOUNT is so much less); then the spending is; then,");
        BeforeThird x = with(0);
        x.bill(0, 1, 9);
        x.bill(5, 1, 9);
        Due.is("no charge between bills of one day", x.days(1), 0);
        Due.is("no charge between them", x.now(ACCOUNT), 0);
        x = with(0);
        x.spend(9);
        x.bill(5, 1, 9);
        Due.is("pay comes ahead of spending", x.days(1), 0);
        x = with(0);
        x.bill(5, 1, 9);
        x.spend(10);
        Due.is("charges come behind spending", x.days(1), 1);
        Due.is("charges come behind spending", x.now(ACCOUNT), -2);
    }

    private static void accountAnew() {
        said("THE ACCOUNT (0 .. 999), all else as at first (but for IMAGES, THE TEXT, THE FRACTION, STATUS): "
            + "how many BILLS there were.");
        BeforeThird x = rich();
        x.account(-1);
        Due.is("three bills", x.account(999), 3);
        figures("as at first", x, 999, 0, 0, 1, 0, 0);
        counts("as at first, but for the text", x, 0, 0, 0, 16);
        // At 11 below on day 19, spending 3, pay on 22: 3 charges whole, 7 burst; 3 times 7 and 7 times 3.
        fraction("it stays", x, 21, 5);
        statuses("it stays", x, 1, 0, 0);
        Due.is("nothing to undo", x.undo(), NO);
        Due.is("the text can be read", x.read(), 2);
        Due.is("no bills by now", x.account(0), 0);
        figures("nothing at first", x, 0, 0, 0, 1, 0, 0);
        Due.is("image 0 stays", x.from(0), 1);
        Due.is("its day", x.now(DAY), 14);
        Due.is("image 1 stays", x.from(1), 1);
        Due.is("its day", x.now(DAY), 1);
        x = new BeforeThird();
        for (int b = 0; b < 7; b++) {
            x.bill(0, 1, 1);
        }
        x.note(6, 1, 2, 3, 4);
        Due.is("seven bills", x.account(1), 7);
        answerAlike("nothing of them is left", x, with(1));
        x.days(28);
        Due.is("nor drawn", x.now(ACCOUNT), 1);
        x = rich();
        x.account(9);
        x.bill(2, 3, 4);
        BeforeThird y = with(9);
        y.bill(2, 3, 4);
        y.boiler(0, 0, 0);
        x.boiler(0, 0, 0);
        x.clear();
        answerAlike("nor behind a new one", x, y);
        x.days(28);
        y.days(28);
        Due.is("nor drawn", x.digest(), y.digest());
        x = rich();
        x.account(0);
        x.spend(1);
        x.boiler(0, 0, 0);
        x.clear();
        y = with(0);
        y.spend(1);
        answerAlike("nor moved, though there are charges", x, y);
    }

    private static void spendingTold() {
        said("A DAY's spending: what it was. BAD.");
        BeforeThird x = with(9);
        x.jar(4);
        Due.is("it was 0", x.spend(30), 0);
        Due.is("31", x.spend(31), BAD);
        Due.is("-1", x.spend(-1), BAD);
        Due.is("it was 30, as a refused one is none", x.spend(0), 30);
        Due.is("it was 0", x.spend(7), 0);
        x.undo();
        x.undo();
        Due.is("undone", x.spend(8), 30);
        Due.is("it is", x.now(SPENDING), 8);
    }

    private static void daysTogether() {
        said("n DAYS go by (1 .. 99; together one that may be undone): CHARGES in them.");
        BeforeThird x = with(3);
        x.spend(1);
        Due.is("96 below of 99", x.days(99), 96);
        Due.is("one to undo, and the spending", x.count(2), 2);
        Due.is("all of them undone", x.undo(), 1);
        figures("all of them", x, 3, 0, 0, 1, 0, 1);
        Due.is("one day", x.days(1), 0);
        Due.is("one to undo again", x.count(2), 2);
        x.days(2);
        Due.is("charges in these, not in all", x.days(2), 2);
        Due.is("and in all", x.now(CHARGES), 2);
        Due.is("again in these alone", x.days(1), 1);
        Due.is("and in all", x.now(CHARGES), 3);
    }

    private static void undone() {
        said("as ahead of the last DAYS gone by, pounds put, taken, spending told");
        BeforeThird x = with(30);
        x.bill(0, 27, 31);
        x.jar(20);
        x.jar(-5);
        x.spend(0);
        x.jar(0);
        x.days(28);
        x.spend(30);
        figures("all of it", x, 15 - 31 - 2, 15, 2, 1, 1, 30);
        counts("six may be undone", x, 1, 0, 6, 0);
        Due.is("the spending", x.undo(), 1);
        figures("the spending", x, -18, 15, 2, 1, 1, 0);
        Due.is("the days", x.undo(), 1);
        figures("the days", x, 15, 15, 0, 1, 0, 0);
        Due.is("nothing put", x.undo(), 1);
        counts("nothing put is one, too", x, 1, 0, 3, 0);
        Due.is("the spending as it was", x.undo(), 1);
        counts("that is one, too", x, 1, 0, 2, 0);
        figures("nothing has changed by these", x, 15, 15, 0, 1, 0, 0);
        Due.is("pounds taken", x.undo(), 1);
        figures("pounds taken", x, 10, 20, 0, 1, 0, 0);
        Due.is("pounds put", x.undo(), 1);
        figures("pounds put", x, 30, 0, 0, 1, 0, 0);
        said("UNDO: the DAY then. NO: none may be.");
        Due.is("none", x.undo(), NO);
        statuses("none", x, 0, 1, 0);
        figures("refused", x, 30, 0, 0, 1, 0, 0);
        counts("refused", x, 1, 0, 0, 0);
        x.days(5);
        x.days(30);
        Due.is("the day then", x.undo(), 6);
        Due.is("the first day", x.undo(), 1);
    }

    private static void eightAtMost() {
        said("(8 at most; behind a BILL that comes none may be)");
        for (int told = 7; told <= 19; told++) {
            BeforeThird x = new BeforeThird();
            for (int i = 1; i <= told; i++) {
                x.spend(i);
            }
            int most = Math.min(told, 8);
            counts(told + " told", x, 0, 0, most, 0);
            for (int i = 1; i <= most; i++) {
                Due.is(told + " told, undone", x.undo(), 1);
                Due.is(told + " told, the spending", x.now(SPENDING), told - i);
                Due.is(told + " told, that may still be", x.count(2), most - i);
            }
            Due.is(told + " told, no more", x.undo(), NO);
            Due.is(told + " told, it stays", x.now(SPENDING), told - most);
        }
        BeforeThird x = with(99);
        for (int i = 0; i < 4; i++) {
            x.days(2);
            x.jar(3);
            x.spend(i + 1);
        }
        // Of twelve the last eight: three and the last two of the fourth from behind.
        for (int i = 0; i < 8; i++) {
            x.undo();
        }
        figures("of all sorts", x, 99 - 3 - 2, 3, 0, 5, 0, 1);
        Due.is("no ninth", x.undo(), NO);
        x.spend(9);
        Due.is("one told behind that", x.count(2), 1);
    }

    private static void behindABill() {
        said("behind a BILL that comes none may be");
        BeforeThird x = with(9);
        x.spend(1);
        x.days(4);
        x.bill(0, 29, 1);
        x.bill(0, 1, 0);
        Due.is("a bill that is refused doesn't come", x.count(2), 2);
        x.bill(0, 1, 1);
        Due.is("one that comes", x.count(2), 0);
        Due.is("none may be", x.undo(), NO);
        Due.is("it stays", x.now(DAY), 5);
        x.days(1);
        Due.is("what comes behind it may be", x.undo(), 5);
        for (int b = 1; b < 7; b++) {
            x.bill(0, 1, 1);
        }
        x.spend(2);
        Due.is("an eighth doesn't come", x.bill(0, 1, 1), FULL);
        Due.is("so it may be", x.undo(), 5);
        x.spend(3);
        x.note(0, 1, 1, 0, 1);
        x.forget();
        Due.is("a note is no bill", x.undo(), 5);
    }

    private static void images() {
        said("IMAGES 0, 1 keep all but them, THE TEXT, THE FRACTION and STATUS; what may be undone they keep; "
            + "it goes on from one.");
        BeforeThird x = rich();
        x.image(0);
        long kept = x.digest();
        x.account(5);
        x.bill(1, 2, 3);
        x.note(0, 1, 1, 0, 0);
        Due.is("it goes on", x.from(0), 1);
        Due.is("all is as it was", x.digest(), kept);
        x.account(700);
        x.from(0);
        alike("what may be undone, too", x, rich2());
        x = rich();
        x.image(0);
        x.clear();
        x.type('a');
        x.boiler(999, 7, 10);
        x.days(0);
        x.from(0);
        Due.is("the text is not as it was", x.count(3), 1);
        fraction("nor is the fraction", x, 7, 1);
        statuses("nor is the status", x, 1, 0, 0);
        said("It goes on from an IMAGE: 1. BAD; NO: none was kept.");
        x = rich();
        x.account(0);
        Due.is("from 1", x.from(1), 1);
        figures("image 1", x, 40, 0, 0, 1, 0, 0);
        counts("image 1", x, 3, 1, 0, 16);
        Due.is("from 0", x.from(0), 1);
        figures("image 0", x, 40 - 9 - 26, 0, 0, 14, 0, 2);
        counts("image 0", x, 3, 1, 2, 16);
        Due.is("what may be undone came along", x.undo(), 1);
        Due.is("what may be undone came along", x.undo(), 1);
        Due.is("no more", x.undo(), NO);
    }

    private static BeforeThird rich2() {
        BeforeThird x = rich();
        x.image(0);
        return x;
    }

    private static void imagesStandApart() {
        said("An IMAGE is kept: 1. BAD.");
        BeforeThird x = with(1);
        Due.is("kept", x.image(0), 1);
        Due.is("the other was not", x.from(1), NO);
        x.account(2);
        Due.is("kept, too", x.image(1), 1);
        x.from(0);
        Due.is("the first", x.now(ACCOUNT), 1);
        x.bill(0, 1, 1);
        x.spend(4);
        x.note(0, 1, 1, 0, 1);
        x.from(0);
        figures("what is done behind it changes no image", x, 1, 0, 0, 1, 0, 0);
        counts("nor that", x, 0, 0, 0, 0);
        x.from(1);
        Due.is("the second", x.now(ACCOUNT), 2);
        x.account(3);
        x.image(0);
        x.from(1);
        x.from(0);
        Due.is("kept again, in the first one's place", x.now(ACCOUNT), 3);
        x.image(1);
        x.account(4);
        x.from(1);
        Due.is("and in the second's", x.now(ACCOUNT), 3);
        x.account(900);
        for (int i = 1; i <= 8; i++) {
            x.jar(i);
        }
        x.image(0);
        x.account(77);
        for (int i = 0; i < 9; i++) {
            x.days(1);
        }
        x.from(0);
        for (int i = 8; i >= 1; i--) {
            Due.is("all eight are kept", x.now(JAR), i * (i + 1) / 2);
            x.undo();
        }
        Due.is("no ninth", x.undo(), NO);
        x.account(0);
        for (int b = 0; b < 7; b++) {
            x.bill(b % 6, 28 - b, 99 - b);
        }
        for (int i = 0; i < 6; i++) {
            x.note(i, 28 - i, 1 + i, 40 - i, 999 - i);
        }
        long full = x.digest();
        x.image(1);
        x.account(5);
        for (int b = 0; b < 7; b++) {
            x.bill(0, 1, 1);
            x.note(0, 1, 1, 0, 1);
        }
        x.from(1);
        Due.is("seven bills and six notes are kept", x.digest(), full);
    }

    private static void imageOfNothing() {
        said("NO: none was kept.");
        BeforeThird x = new BeforeThird();
        Due.is("none of 0", x.from(0), NO);
        Due.is("none of 1", x.from(1), NO);
        statuses("none", x, 0, 2, 0);
        Due.is("a new one's", x.image(1), 1);
        x.account(50);
        x.bill(0, 1, 1);
        x.days(1);
        Due.is("back to it", x.from(1), 1);
        figures("as new", x, 0, 0, 0, 1, 0, 0);
        counts("as new", x, 0, 0, 0, 0);
        Due.is("still none of 0", x.from(0), NO);
    }

    private static void statusOutlives() {
        said("STATUS: how many calls were refused as BAD, NO, FULL (each answer told so below is such a one).");
        BeforeThird x = new BeforeThird();
        x.image(0);
        x.days(0);
        x.undo();
        for (int i = 0; i < 9; i++) {
            x.bill(0, 1, 1);
        }
        statuses("each by its reason", x, 1, 1, 2);
        x.account(0);
        statuses("behind an account", x, 1, 1, 2);
        type(x, "account 1;");
        x.read();
        statuses("behind one that is read", x, 1, 1, 2);
        x.from(0);
        statuses("behind an image", x, 1, 1, 2);
        x.days(1);
        x.undo();
        statuses("behind what is undone", x, 1, 1, 2);
        said("-1: another what (counts as BAD)");
        Due.is("3", x.status(3), -1);
        Due.is("counted", x.status(0), 2);
        Due.is("-1", x.status(-1), -1);
        statuses("counted", x, 3, 1, 2);
    }

    private static void fractionAtFirst() {
        said("THE FRACTION is 0 by 1 at first; lowest terms, below above 0.");
        fraction("at first", new BeforeThird(), 0, 1);
        BeforeThird x = with(0);
        // Burst it is below 0 on each of m days, whole on none: m times c by 10.
        int[][] tenths = {{0, 1}, {1, 10}, {1, 5}, {3, 10}, {2, 5}, {1, 2}, {3, 5}, {7, 10}, {4, 5}, {9, 10}, {1, 1}};
        for (int c = 0; c <= 10; c++) {
            Due.is("boiler", x.boiler(1, 1, c), 1);
            fraction("1 day, " + c, x, tenths[c][0], tenths[c][1]);
            x.boiler(1, 10, c);
            fraction("10 days, " + c, x, c, 1);
        }
        x.boiler(1, 5, 3);
        fraction("5 days, 3", x, 3, 2);
        x.boiler(1, 2, 4);
        fraction("2 days, 4", x, 4, 5);
        x.boiler(1, 99, 9);
        fraction("99 days, 9", x, 891, 10);
        x.account(5);
        fraction("it stays", x, 891, 10);
    }

    private static void digests() {
        said("h = 1373; then h = 31 h + v for each v: count(0) to count(3); now(0) to now(5); of BILLS KIND, DAY, "
            + "POUNDS; of NOTES b, d, e, m, q; THE FRACTION.");
        BeforeThird x = with(3);
        List<Integer> told = new ArrayList<>();
        for (int b = 0; b < 7; b++) {
            x.bill(b % 6, 22 + b, 99 - b);
            told.addAll(List.of(b % 6, 22 + b, 99 - b));
        }
        for (int i = 0; i < 6; i++) {
            x.note(i, 28 - i, 1 + i, 40 - i, 997 * (i % 3 - 1));
            told.addAll(List.of(i, 28 - i, 1 + i, 40 - i, 997 * (i % 3 - 1)));
        }
        x.jar(2);
        x.spend(1);
        x.days(2);
        type(x, "digest");
        x.boiler(999, 3, 3);
        // 1 pound lasts a day; then 1 below on day 2. Below 0 in the next 3 days, burst or not.
        told.addAll(0, List.of(7, 6, 3, 6, -2, 2, 1, 3, 0, 1));
        told.addAll(List.of(3, 1));
        BigInteger h = BigInteger.valueOf(1373);
        for (int v : told) {
            h = h.multiply(BigInteger.valueOf(31)).add(BigInteger.valueOf(v));
        }
        Due.holds("the sum is beyond what a long holds", h.bitLength() > 200);
        Due.is("wrapped around", x.digest(), h.longValue());
    }
}
