/** The boundary cases of the document's second part: what is asked, and changes nothing. */
public final class QuestionsTest extends Asking {
    public static void main(String[] args) {
        nothingIsChanged();
        beyondTheLastMonth();
        asInAnyMonth();
        truly();
        then();
        low();
        below();
        most();
        need();
        move();
        moveOfLikeOnes();
        moveOfNone();
        monthly();
        dear();
        notes();
        forgotten();
        is();
        look();
        two();
        twoMore();
        boiler();
        seeds();
        yearsAndDays();
        Due.end();
    }

    private static void nothingIsChanged() {
        said("(Nothing is changed by these; MONTHS go beyond 999 in them.)");
        int[][] arguments = {{}, {99, 0}, {99, 1}, {}, {99}, {99}, {}, {1}, {}, {1}, {1}, {28, 0}, {7, 60}};
        String[] names = {
            "truly", "then", "low", "below", "most", "need", "move", "monthly", "dear", "is", "look", "two", "years"};
        for (int i = 0; i < names.length; i++) {
            BeforeThird x = rich();
            long first = call(x, names[i], arguments[i]);
            Due.is(names[i] + " again", call(x, names[i], arguments[i]), first);
            statuses(names[i], x, 0, 0, 0);
            alike(names[i], x, rich());
        }
        BeforeThird x = rich();
        x.boiler(999, 99, 7);
        x.boiler(30, 9, 3);
        alike("boiler", x, rich());
        x = rich();
        x.boiler(999, 99, 10);
        for (int i = 0; i < names.length; i++) {
            call(x, names[i], arguments[i]);
            fraction("the fraction behind " + names[i], x, 99, 1);
        }
    }

    /** Plain, pay, quarter, yearly, card and moved ones, told when the day has come. */
    private static void tellBills(BeforeThird x) {
        x.bill(5, 1, 60);
        x.bill(0, 28, 40);
        x.bill(2, 1, 30);
        x.bill(4, 5, 9);
        x.bill(3, 14, 5);
        x.bill(1, 27, 10);
        x.spend(2);
    }

    private static BeforeThird onDay28(int month) {
        BeforeThird x = with(100);
        pass(x, 28 * month + 27);
        tellBills(x);
        return x;
    }

    private static void beyondTheLastMonth() {
        said("MONTHS go beyond 999 in them");
        BeforeThird x = onDay28(999);
        figures("the last day of all", x, 100, 0, 0, 28, 999, 2);
        Due.is("truly: the plain one and the card", x.truly(), 55);
        Due.is("day 28", x.then(1, 0), 53);
        Due.is("day 1 of month 1000: pay, no quarter", x.then(2, 0), 111);
        Due.is("day 27", x.then(28, 0), 49);
        Due.is("day 28", x.then(29, 0), 2);
        Due.is("day 1 of month 1001", x.then(30, 0), 60);
        Due.is("day 28, below since day 27", x.then(57, 0), -51);
        Due.is("day 1 of month 1002: a quarter", x.then(58, 0), -24);
        Due.is("three days below", x.then(58, 1), 3);
        Due.is("the least", x.low(57, 0), -51);
        Due.is("in how many", x.low(57, 1), 57);
        Due.is("below first", x.below(), 56);
        Due.is("the last ahead of that", x.most(29), 2);
        Due.is("a year from 1008", x.monthly(3), 90 - 108);
        Due.is("quarters from 999 to 1008", x.monthly(2), 120 - 360);
        figures("it is still that day", x, 100, 0, 0, 28, 999, 2);
    }

    /** 12 divides 999 less 3: months 999 on are as months 3 on, but for their end in what really goes by. */
    private static void asInAnyMonth() {
        said("MONTHS go beyond 999 in them");
        BeforeThird x = onDay28(999);
        BeforeThird y = onDay28(3);
        for (int m : new int[] {0, 1, 2, 15, 28, 29, 30, 57, 58, 59, 85, 86, 98, 99}) {
            Due.is("then " + m, x.then(m, 0), y.then(m, 0));
            Due.is("charges " + m, x.then(m, 1), y.then(m, 1));
            if (m > 0) {
                Due.is("low " + m, x.low(m, 0), y.low(m, 0));
                Due.is("low " + m, x.low(m, 1), y.low(m, 1));
                Due.is("most " + m, x.most(m), y.most(m));
                Due.is("need " + m, x.need(m), y.need(m));
            }
            x.boiler(90, m, 3);
            y.boiler(90, m, 3);
            Due.is("boiler " + m, x.part(0), y.part(0));
            Due.is("boiler " + m, x.part(1), y.part(1));
        }
        Due.is("move", x.move(), y.move());
        Due.is("dear", x.dear(), y.dear());
        for (int m = 1; m <= 28; m += 9) {
            Due.is("two", x.two(m, NONE), y.two(m, NONE));
            Due.is("two", x.two(m, 0), y.two(m, 0));
        }
        for (int n = 0; n <= 60; n += 12) {
            Due.is("years", x.years(77, n), y.years(77, n));
        }
        for (int b = 0; b < 6; b++) {
            Due.is("monthly " + b, x.monthly(b), y.monthly(b));
        }
    }

    private static void truly() {
        said("less all BILLS (PAY aside) that are drawn in this MONTH from this DAY (it, too) on");
        BeforeThird x = with(100);
        x.bill(0, 10, 30);
        x.spend(0);
        Due.is("on day 1", x.truly(), 70);
        x.days(9);
        Due.is("on its day", x.truly(), 70);
        Due.is("though nothing was drawn yet", x.now(ACCOUNT), 100);
        x.days(1);
        Due.is("behind it, drawn once alone", x.truly(), 70);
        x.days(17);
        Due.is("on day 28 the next month's don't count", x.truly(), 70);
        x.days(1);
        Due.is("on day 1 they do", x.truly(), 40);
        x = with(100);
        x.bill(5, 20, 99);
        Due.is("pay aside", x.truly(), 100);
        x.spend(30);
        Due.is("no spending in it", x.truly(), 100);
        x = with(100);
        x.bill(1, 7, 3);
        x.bill(1, 28, 5);
        x.bill(3, 20, 9);
        x.bill(3, 14, 17);
        x.bill(0, 28, 33);
        Due.is("all of them", x.truly(), 100 - 67);
        x.days(6);
        Due.is("day 7: the card of day 6 is drawn", x.truly(), 33);
        x.days(1);
        Due.is("day 8: the moved one is due today", x.truly(), 33);
        Due.is("the card alone was drawn", x.now(ACCOUNT), 91);
        x.days(20);
        Due.is("day 28: 17 and 33 are to come, what was moved to 27 is gone", x.truly(), 83 - 50);
        Due.is("what is there", x.now(ACCOUNT), 83);
        x = with(5);
        x.bill(4, 28, 99);
        x.bill(2, 28, 99);
        Due.is("below 0", x.truly(), 5 - 990 - 99);
        x.days(27);
        x.days(1);
        Due.is("none in month 1", x.truly(), x.now(ACCOUNT));
        Due.is("no bills", with(7).truly(), 7);
    }

    private static void then() {
        said("THEN: THE ACCOUNT behind m (0 .. 99) DAYS; CHARGES in them.");
        BeforeThird x = with(0);
        x.spend(1);
        x.days(3);
        Due.is("behind none", x.then(0, 0), -6);
        Due.is("charges in none", x.then(0, 1), 0);
        Due.is("behind one", x.then(1, 0), -8);
        Due.is("charges in one, not in all", x.then(1, 1), 1);
        Due.is("behind 99", x.then(99, 0), -204);
        Due.is("charges in 99", x.then(99, 1), 99);
        Due.is("none to 100", x.then(100, 0), FAR);
        Due.is("none to -1", x.then(-1, 1), FAR);
        x = with(999);
        x.bill(0, 15, 1);
        x.days(14);
        Due.is("day 15 is the first of them", x.then(1, 0), 998);
        Due.is("28 behind it", x.then(28, 0), 998);
        Due.is("the next month's, too", x.then(29, 0), 997);
        Due.is("four of them in 85", x.then(84, 0), 996);
        Due.is("four of them in 85", x.then(85, 0), 995);
        Due.is("no fifth in 99", x.then(99, 0), 995);
        x = with(5);
        x.bill(0, 16, 2);
        // Drawn on the 16th, 44th, 72nd and 100th of the next days: the last is beyond all questions.
        Due.is("the 99th", x.then(99, 0), -28 - 1);
        Due.is("its charges", x.then(99, 1), 28);
        Due.is("the least", x.low(99, 0), -29);
        x = with(6);
        x.bill(0, 16, 2);
        Due.is("none on the 100th: never below", x.below(), NONE);
        Due.is("none on the 100th: no need", x.need(99), 0);
        Due.is("none on the 100th: nothing to spend", x.most(99), 0);
        x = with(100);
        x.bill(2, 28, 9);
        x.bill(4, 28, 1);
        Due.is("day 28 is of this month", x.then(28, 0), 81);
        Due.is("the next is no quarter's", x.then(56, 0), 81);
        x.days(27);
        Due.is("today is of this month", x.then(1, 0), 81);
        x.days(28);
        Due.is("month 1: none", x.then(1, 0), 81);
        Due.is("month 3: the quarter alone", x.then(57, 0), 72);
    }

    private static void low() {
        said("LOW in m (1 .. 99) DAYS: the least that THE ACCOUNT is behind one of them; in how many that is first.");
        BeforeThird x = with(10);
        x.bill(5, 1, 5);
        Due.is("what is there now is behind none", x.low(1, 0), 15);
        Due.is("what is there now is behind none", x.low(1, 1), 1);
        x = with(10);
        x.bill(0, 3, 4);
        x.bill(5, 5, 4);
        x.bill(0, 8, 4);
        Due.is("ahead of the first bill", x.low(2, 0), 10);
        Due.is("in the first of like ones", x.low(2, 1), 1);
        Due.is("behind it", x.low(3, 0), 6);
        Due.is("behind it", x.low(3, 1), 3);
        Due.is("the first of like ones, not the last", x.low(30, 0), 6);
        Due.is("the first of like ones, not the last", x.low(30, 1), 3);
        Due.is("in the next month", x.low(31, 0), 2);
        Due.is("in the next month", x.low(31, 1), 31);
        x = with(99);
        x.spend(1);
        Due.is("the last of 99", x.low(99, 0), 0);
        Due.is("the last of 99", x.low(99, 1), 99);
        Due.is("none of 0", x.low(0, 0), FAR);
        Due.is("none of 100", x.low(100, 1), FAR);
        x = with(0);
        x.bill(0, 1, 9);
        Due.is("with its charge", x.low(1, 0), -10);
    }

    private static void below() {
        said("BELOW: in how many DAYS (1 .. 99) it is below 0 behind one first; none.");
        BeforeThird x = with(0);
        Due.is("nothing is not below", x.below(), NONE);
        x.spend(1);
        Due.is("in 1", x.below(), 1);
        x = with(98);
        x.spend(1);
        Due.is("in 99", x.below(), 99);
        x = with(99);
        x.spend(1);
        Due.is("in 100: none", x.below(), NONE);
        x = with(0);
        x.bill(0, 1, 1);
        x.bill(5, 2, 2);
        x.days(1);
        Due.is("it is below now", x.now(ACCOUNT), -2);
        Due.is("but behind none ahead of the next month's", x.below(), 28);
        x = with(5);
        x.bill(0, 9, 6);
        x.bill(5, 10, 99);
        x.bill(0, 11, 99);
        Due.is("the first of some", x.below(), 9);
        statuses("none is no refusal", x, 0, 0, 0);
    }

    private static void most() {
        said("the most (0 .. 30) that can be spent each DAY so that THE ACCOUNT is below 0 behind none of them; none.");
        int[][] due = {
            {29, 1, 29}, {30, 1, 30}, {31, 1, 30}, {0, 1, 0}, {0, 99, 0}, {98, 99, 0}, {99, 99, 1}, {999, 99, 10},
            {999, 33, 30}, {999, 34, 29}, {59, 2, 29}, {60, 2, 30}};
        for (int[] d : due) {
            Due.is(d[0] + " pounds, " + d[1] + " days", with(d[0]).most(d[1]), d[2]);
        }
        BeforeThird x = with(10);
        x.bill(0, 5, 10);
        Due.is("ahead of the bill", x.most(4), 2);
        Due.is("exactly nothing is left", x.most(5), 0);
        x.bill(0, 6, 1);
        Due.is("none", x.most(6), NONE);
        Due.is("none is no refusal", x.status(0), 0);
        x = with(10);
        x.spend(30);
        Due.is("in place of the spending", x.most(1), 10);
        x = with(0);
        x.bill(0, 1, 1);
        x.bill(5, 2, 5);
        Due.is("none, though pay comes later", x.most(2), NONE);
        x.days(1);
        Due.is("below now, but behind none", x.most(1), 3);
        Due.is("0 days", x.most(0), BAD);
        Due.is("100 days", x.most(100), BAD);
    }

    private static void need() {
        said("the least that THE ACCOUNT should be more now (0 .. 999) for that, spending as it is; none.");
        BeforeThird x = with(0);
        Due.is("nothing", x.need(99), 0);
        Due.is("more than nothing is there", with(999).need(99), 0);
        x.bill(0, 1, 1);
        Due.is("a pound", x.need(1), 1);
        x = with(0);
        x.spend(1);
        Due.is("no charges in it", x.need(5), 5);
        Due.is("of 99", x.need(99), 99);
        x = with(4);
        x.spend(1);
        Due.is("exactly enough", x.need(4), 0);
        Due.is("a pound too few", x.need(5), 1);
        x = with(21);
        x.spend(30);
        Due.is("the most", x.need(34), 999);
        x = with(20);
        x.spend(30);
        Due.is("one more: none", x.need(34), NONE);
        Due.is("and of 99", x.need(99), NONE);
        Due.is("none is no refusal", x.status(0), 0);
        x = with(0);
        x.bill(0, 1, 1);
        x.bill(5, 2, 2);
        x.days(1);
        Due.is("below now, but behind none", x.need(1), 0);
        Due.is("the dearest of all days counts, not the last", x.need(28), 1);
        Due.is("0 days", x.need(0), BAD);
        Due.is("100 days", x.need(100), BAD);
    }

    private static int moved(int kind, int told) {
        BeforeThird x = with(0);
        x.bill(kind, told, 1);
        return x.move();
    }

    private static void move() {
        said("one BILL told for another DAY (1 .. 28) so that CHARGES in the next 28 DAYS are fewest");
        // With nothing there, a charge a day from its day on: as late as can be.
        Due.is("a plain one to 28", moved(0, 1), 28);
        Due.is("a card to what is drawn on 28", moved(3, 1), 14);
        Due.is("a moved one to 27, as 28 is no later", moved(1, 1), 27);
        Due.is("a quarter", moved(2, 27), 28);
        Due.is("a yearly one", moved(4, 1), 28);
        BeforeThird x = with(0);
        x.days(1);
        x.bill(0, 2, 1);
        Due.is("on day 2, the last of the next 28 is day 1", x.move(), 1);
        x = with(0);
        x.bill(0, 6, 50);
        x.bill(5, 20, 50);
        x.bill(0, 25, 1);
        // On 20 .. 24 the other bill makes it 4 charges, on 28 it is 1.
        Due.is("behind pay and behind the other bill", x.move(), 28);
        said("100 times its number and the DAY");
        x = with(0);
        x.days(28);
        for (int b = 0; b < 6; b++) {
            x.bill(2, 5, 9);
        }
        x.bill(0, 1, 1);
        Due.is("bill 6, day 28", x.move(), 628);
        x = with(0);
        x.days(28);
        x.bill(2, 5, 9);
        x.days(1);
        x.bill(0, 2, 1);
        Due.is("bill 1, day 1", x.move(), 101);
    }

    private static void moveOfLikeOnes() {
        said("of like ones the least");
        BeforeThird x = with(1);
        x.bill(0, 1, 1);
        x.bill(0, 1, 1);
        Due.is("the lower number", x.move(), 28);
        x = with(0);
        x.bill(5, 20, 9);
        x.bill(0, 10, 9);
        // Pay on any of 1 .. 10, the bill on any of 20 .. 28: no charges.
        Due.is("the lower day", x.move(), 1);
        x = with(0);
        x.bill(0, 10, 9);
        x.bill(5, 20, 9);
        Due.is("the lower number, though the day is higher", x.move(), 20);
        x = with(0);
        x.bill(1, 3, 9);
        x.bill(5, 21, 9);
        Due.is("told for 21 a moved one is drawn on 22, as pay is", x.move(), 21);
        x = with(10);
        x.bill(0, 1, 10);
        x.spend(1);
        // 10 pounds last till day 10 if the bill comes later: then on whichever day it comes.
        Due.is("the lowest of many days", x.move(), 11);
        x = with(0);
        x.bill(5, 1, 10);
        x.bill(0, 1, 10);
        x.bill(0, 2, 5);
        // Either plain one on 28 leaves 1 charge; pay helps nowhere.
        Due.is("the second, with the first as it is", x.move(), 128);
    }

    private static void moveOfNone() {
        said("none: by none fewer than as it is");
        Due.is("no bills", with(0).move(), NONE);
        Due.is("on the best day", moved(0, 28), NONE);
        Due.is("on the best day, told for a later one", moved(1, 28), NONE);
        Due.is("pay with nothing else", moved(5, 3), NONE);
        BeforeThird x = with(10);
        x.bill(0, 1, 10);
        Due.is("no charges", x.move(), NONE);
        x = with(0);
        x.days(28);
        x.spend(1);
        x.bill(2, 5, 9);
        x.bill(4, 6, 9);
        Due.is("bills that draw nothing", x.move(), NONE);
        statuses("none is no refusal", x, 0, 0, 0);
    }

    private static void monthly() {
        said("what is drawn for it in 12 whole MONTHS from this one on, as its KIND is, less what would be, were it PLAIN");
        int[] times = {0, 0, -8, 0, -2, -24};
        for (int kind = 0; kind < 6; kind++) {
            BeforeThird x = with(0);
            x.bill(kind, 1, 1);
            x.bill(kind, 28, 99);
            for (int month = 0; month <= 13; month++) {
                Due.is("kind " + kind + " in month " + month, x.monthly(0), times[kind]);
                x.days(27);
                Due.is("on day 28 the month is whole, too", x.monthly(0), times[kind]);
                Due.is("99 pounds", x.monthly(1), 99 * times[kind]);
                x.days(1);
            }
            Due.is("no bill 2", x.monthly(2), FAR);
            Due.is("no bill -1", x.monthly(-1), FAR);
        }
    }

    private static void dear() {
        said("the BILL without which CHARGES in the next 28 DAYS are fewest; of like ones the first; none: no BILLS.");
        Due.is("no bills", with(0).dear(), NONE);
        BeforeThird x = with(0);
        x.spend(1);
        x.bill(5, 1, 99);
        Due.is("pay, if there is no other", x.dear(), 0);
        x = with(999);
        x.bill(0, 1, 1);
        x.bill(0, 2, 99);
        Due.is("no charges: the first", x.dear(), 0);
        x = with(0);
        x.days(28);
        for (int b = 0; b < 6; b++) {
            x.bill(2, 5, 9);
        }
        x.bill(0, 1, 1);
        Due.is("the last of seven", x.dear(), 6);
        x = with(0);
        x.days(1);
        x.bill(0, 1, 5);
        x.bill(0, 2, 5);
        Due.is("day 1 is the last of the next 28", x.dear(), 1);
        x = with(8);
        x.bill(0, 5, 4);
        x.bill(0, 6, 5);
        x.bill(0, 7, 5);
        // 14 of 8: without the 4, from 7 on; without either 5, from 7, or from 6 on.
        Due.is("of like ones the first", x.dear(), 0);
        x = with(8);
        x.bill(0, 6, 1);
        x.bill(0, 6, 5);
        x.bill(0, 7, 5);
        Due.is("the first of those that help", x.dear(), 1);
        x = with(5);
        x.bill(0, 1, 5);
        x.bill(0, 2, 10);
        Due.is("each is left out once, and by itself", x.dear(), 1);
        statuses("none is no refusal", x, 0, 0, 0);
    }

    private static void notes() {
        said("NOTES 0 .. 5, as they come: told for DAY d (1 .. 28) a BILL was drawn on DAY e (1 .. 28) in MONTH m "
            + "(0 .. 40), q (-999 .. 999) POUNDS, its POUNDS as they are.");
        int[][] told = {
            {0, 1, 28, 0, -999}, {1, 28, 1, 40, 999}, {0, 2, 3, 4, 5}, {1, 2, 3, 4, -5}, {0, 1, 1, 0, 0},
            {1, 28, 28, 40, 0}};
        BeforeThird x = with(0);
        x.bill(0, 1, 1);
        x.bill(0, 1, 1);
        long h = digestOf(2, 6, 0, 0, 0, 0, 0, 1, 0, 0, 0, 1, 1, 0, 1, 1);
        for (int i = 0; i < 6; i++) {
            Due.is("how many", x.note(told[i][0], told[i][1], told[i][2], told[i][3], told[i][4]), i + 1);
            for (int v : told[i]) {
                h = 31 * h + v;
            }
        }
        Due.is("as they come", x.digest(), 31 * 31 * h + 1);
        said("A NOTE: how many there are. BAD; FULL: 6.");
        Due.is("no seventh", x.note(0, 1, 1, 0, 0), FULL);
        Due.is("there are six", x.count(1), 6);
        Due.is("nothing has changed", x.digest(), 31 * 31 * h + 1);
        Due.is("no bill 2", x.note(2, 1, 1, 0, 0), BAD);
        statuses("refused", x, 1, 0, 1);
        x = new BeforeThird();
        Due.is("no bill at all", x.note(0, 1, 1, 0, 0), BAD);
    }

    private static void forgotten() {
        said("No NOTES: how many there were.");
        BeforeThird x = with(0);
        Due.is("none", x.forget(), 0);
        x.bill(0, 1, 9);
        x.note(0, 1, 1, 0, 8);
        Due.is("one", x.forget(), 1);
        Due.is("none again", x.forget(), 0);
        Due.is("it counts no more", x.is(0), 63);
        for (int i = 0; i < 7; i++) {
            x.note(0, 1, 1, 0, i);
        }
        Due.is("six", x.forget(), 6);
        Due.is("the first again", x.note(0, 1, 1, 0, 0), 1);
        Due.is("the bill stays", x.count(0), 1);
    }

    private static int is(int pounds, int d, int e, int m, int q) {
        BeforeThird x = with(0);
        x.bill(0, 1, 1);
        x.bill(0, 3, pounds);
        x.note(1, d, e, m, q);
        Due.is("the other bill has no notes", x.is(0), 63);
        return x.is(1);
    }

    private static void is() {
        said("IS: KINDS (bits) by which all NOTES of it are so.");
        Due.is("no notes: all", is(9, 0, 0, 0, 0), 63);
        Due.is("plain, moved and quarter", is(9, 1, 1, 0, 9), 7);
        Due.is("plain and moved", is(9, 1, 1, 40, 9), 3);
        Due.is("quarter in 39", is(9, 7, 7, 39, 9), 5);
        Due.is("no quarter in 40", is(9, 7, 7, 40, 9), 1);
        Due.is("moved", is(9, 7, 8, 0, 9), 2);
        Due.is("moved to 27", is(9, 28, 27, 0, 9), 2);
        Due.is("not to 29 less 28", is(9, 28, 1, 0, 9), 0);
        Due.is("card to 28", is(9, 14, 28, 0, 9), 8);
        Due.is("card to 1", is(9, 15, 1, 0, 9), 8);
        Due.is("card to 14", is(9, 28, 14, 0, 9), 8);
        Due.is("yearly", is(99, 1, 1, 36, 990), 16);
        Due.is("no yearly in 39", is(99, 1, 1, 39, 990), 0);
        Due.is("quarter and yearly draw none", is(9, 28, 28, 40, 0), 20);
        Due.is("yearly draws none in a quarter's month", is(9, 28, 28, 39, 0), 16);
        Due.is("pay", is(99, 1, 1, 0, -99), 32);
        Due.is("pay on 27", is(99, 28, 27, 40, -99), 32);
        Due.is("none, though a pound off", is(9, 1, 1, 0, 8), 0);
        Due.is("none, though a day off", is(9, 1, 2, 0, 9), 0);
        Due.is("the most of pounds", is(99, 1, 1, 0, 999), 0);
        Due.is("the least of pounds", is(99, 1, 1, 0, -999), 0);
        BeforeThird x = with(0);
        x.bill(3, 3, 9);
        for (int i = 0; i < 5; i++) {
            x.note(0, 1, 1, 40, 9);
        }
        Due.is("not by its own kind", x.is(0), 3);
        x.note(0, 7, 7, 40, 9);
        Due.is("all six of them", x.is(0), 1);
        Due.is("no bill 1", x.is(1), BAD);
        Due.is("no bill -1", x.is(-1), BAD);
        statuses("refused", x, 2, 0, 0);
    }

    private static int look(int told, int... note) {
        BeforeThird x = with(0);
        x.bill(3, told, 9);
        if (note.length == 4) {
            x.note(0, note[0], note[1], note[2], note[3]);
        }
        return x.look(0);
    }

    private static void look() {
        said("LOOK: the MONTH (0 .. 12) by which the most of these KINDS that are drawn alike (DAY, as it is told "
            + "for, and POUNDS) are fewest; of like ones the first; none: no KIND.");
        // In months 0, 3 .. 12 plain, moved and quarter are alike; else plain and moved, and quarter and yearly.
        Due.is("all kinds", look(1), 1);
        Due.is("all kinds on a sunday: two alike in each, so the first", look(7), 0);
        Due.is("on day 28, too", look(28), 0);
        Due.is("plain, moved and quarter", look(1, 1, 1, 0, 9), 1);
        Due.is("on a sunday plain and quarter are", look(7, 1, 1, 0, 9), 1);
        Due.is("plain and moved are always alike", look(1, 1, 1, 1, 9), 0);
        Due.is("on a sunday never", look(14, 1, 1, 1, 9), 0);
        Due.is("quarter and yearly differ in month 0", look(1, 1, 1, 1, 0), 0);
        Due.is("one alone", look(1, 14, 28, 5, 9), 0);
        Due.is("none", look(1, 1, 1, 0, 8), NONE);
        BeforeThird x = with(0);
        Due.is("no bill", x.look(0), BAD);
        Due.is("no bill -1", x.look(-1), BAD);
        x.bill(0, 1, 1);
        x.note(0, 1, 1, 0, 5);
        x.look(0);
        statuses("none is no refusal", x, 2, 0, 0);
    }

    private static void pairs(String what, BeforeThird x, int m, int... want) {
        Due.is(what + ": how many", x.two(m, NONE), want.length);
        for (int k = 0; k < want.length; k++) {
            Due.is(what + ": pair " + k, x.two(m, k), want[k]);
        }
        Due.is(what + ": not so many", x.two(m, want.length), -5);
    }

    private static void two() {
        said("pairs 4 i and j that rest (neither would get more by other pounds): how many; the k-th (rising).");
        BeforeThird x = with(0);
        // Any pound costs a charge each day: 9 for 3 pounds is more than 8 charges, as much as 9.
        pairs("a day", x, 1, 15);
        pairs("8 days", x, 8, 15);
        pairs("9 days: as much is no more", x, 9, 0, 15);
        pairs("10 days", x, 10, 0, 15);
        pairs("28 days", x, 28, 0, 15);
        pairs("never a charge", with(999), 28, 15);
        x.bill(0, 1, 1);
        pairs("always one", x, 28, 15);
        said("TWO: how many (k = NONE), the k-th. -5: not so many. BAD: -10.");
        x = with(0);
        Due.is("the first", x.two(28, 0), 0);
        Due.is("the last", x.two(28, 1), 15);
        Due.is("not so many", x.two(28, 2), -5);
        Due.is("16", x.two(28, 16), -5);
        Due.is("far from so many", x.two(28, Integer.MAX_VALUE), -5);
        statuses("that is no refusal", x, 0, 0, 0);
        Due.is("k -2", x.two(28, -2), BAD_TWO);
        Due.is("0 days", x.two(0, NONE), BAD_TWO);
        Due.is("29 days", x.two(29, NONE), BAD_TWO);
        statuses("refused", x, 3, 0, 0);
    }

    private static void twoMore() {
        said("TWO may spend i, j (0 .. 3 each) more each DAY for m (1 .. 28) DAYS: to each 3 times that, "
            + "less CHARGES in them");
        BeforeThird x = with(28);
        // Up to a pound together there is no charge; two pounds last 14 days.
        pairs("28 pounds", x, 28, 1, 4, 15);
        x.spend(1);
        pairs("28 pounds, and one spent each day: more than that", x, 28, 0, 15);
        x = with(28 * 6);
        pairs("enough for both", x, 28, 15);
        x = with(28 * 6 - 1);
        pairs("one charge is less than 3", x, 28, 15);
        // 4 together cost nothing, 5 cost 6 charges, 6 cost 10; no one may spend 4.
        pairs("enough for 4", with(28 * 4), 28, 7, 10, 13);
        x = with(0);
        x.bill(0, 28, 1);
        pairs("a charge that comes anyway", x, 28, 0, 15);
    }

    private static void boiler() {
        said("by c of 10 (0 .. 10) it bursts now, b (0 .. 999) POUNDS are drawn at once: CHARGES in the next m (0 .. 99) "
            + "DAYS, in the mean");
        BeforeThird x = with(50);
        x.boiler(50, 99, 10);
        fraction("to nothing", x, 0, 1);
        x.boiler(51, 99, 10);
        fraction("a pound below", x, 99, 1);
        x.boiler(51, 0, 10);
        fraction("in no days", x, 0, 1);
        x.boiler(51, 1, 10);
        fraction("in one", x, 1, 1);
        x.boiler(999, 99, 0);
        fraction("by 0 of 10", x, 0, 1);
        x.boiler(999, 99, 1);
        fraction("by 1 of 10", x, 99, 10);
        x.boiler(999, 99, 9);
        fraction("by 9 of 10", x, 891, 10);
        x.boiler(0, 99, 10);
        fraction("for nothing", x, 0, 1);
        x = with(5);
        x.bill(5, 1, 5);
        x.boiler(10, 1, 10);
        fraction("at once is no day of its own", x, 0, 1);
        x = with(5);
        x.spend(1);
        x.boiler(3, 10, 5);
        fraction("8 charges or 5", x, 13, 2);
        Due.is("nothing is drawn", x.now(ACCOUNT), 5);
        x.days(9);
        x.boiler(3, 10, 5);
        fraction("charges in the next days, not in all", x, 10, 1);
    }

    /** Seed 1 is the row that the C standard tells for its rand: 16838, 5758, 10113, 17515 .. */
    private static void seeds() {
        said("X is SEED at first; each DAY X becomes X times 1103515245 and 12345, by 2147483648 what is left over; "
            + "X by 65536 (cut), by 31 left over, is what is spent on it");
        int[] spent = {16838 % 31, 5758 % 31, 10113 % 31, 17515 % 31, 31051 % 31, 5627 % 31, 23010 % 31, 7419 % 31};
        BeforeThird x = with(999);
        int left = 999;
        for (int n = 0; n <= spent.length; n++) {
            Due.is("behind " + n, x.years(1, n), left);
            left -= n < spent.length ? spent[n] : 0;
        }
        Due.is("seed 0, the first day", x.years(0, 1), 999);
        Due.is("seed 0", x.years(0, 60), 196);
        Due.is("seed 1", x.years(1, 60), 65);
        Due.is("seed 999999", x.years(999999, 60), 35);
        Due.is("seed 999999, the first day", x.years(999999, 1), 993);
        Due.is("seed -1", x.years(-1, 60), FAR);
        Due.is("seed 1000000", x.years(1000000, 60), FAR);
    }

    private static void yearsAndDays() {
        said("YEARS by a SEED (0 .. 999999), n (0 .. 60) DAYS");
        BeforeThird x = with(5);
        Due.is("no days", x.years(1, 0), 5);
        Due.is("to nothing", x.years(1, 1), 0);
        Due.is("with its charge", x.years(1, 2), -24);
        Due.is("and the next", x.years(1, 3), -32);
        x.spend(30);
        Due.is("in place of the spending", x.years(1, 1), 0);
        x.bill(5, 2, 24);
        Due.is("pay comes", x.years(1, 2), 1);
        Due.is("61 days", x.years(1, 61), FAR);
        Due.is("-1 days", x.years(1, -1), FAR);
        statuses("refused", x, 2, 0, 0);
        x = with(0);
        x.bill(0, 1, 1);
        x.days(1);
        Due.is("below 0 as it is", x.years(1, 0), -2);
    }
}
