/** Each promise by itself, with answers worked out by hand from the document. */
public final class PromisesTest extends Asking {
    public static void main(String[] args) {
        p1();
        p2();
        p3();
        p4to5();
        p6();
        p6faults();
        p7();
        p7lastDay();
        p8();
        p9();
        p10();
        p11();
        p12();
        p13();
        p14to16();
        p17();
        p18();
        p19();
        p20();
        p21();
        p22to23();
        p24();
        p25();
        p26();
        p27and29();
        p28();
        p30to31();
        p32();
        p33();
        p34();
        beyondLastMonth();
        Due.end();
    }

    private static void p1() {
        BeforeThird x = new BeforeThird();
        counts("p1", x, 0, 0, 0, 0);
        figures("p1", x, 0, 0, 0, 1, 0, 0);
        fraction("p1", x, 0, 1);
        statuses("p1", x, 0, 0, 0);
        Due.is("p1 undo", x.undo(), -3);
        Due.is("p1 from", x.from(0), -3);
        Due.is("p1 other object", new BeforeThird().status(1), 0);
    }

    private static void p2() {
        BeforeThird x = new BeforeThird();
        x.bill(0, 1, 5);
        x.bill(1, 7, 5);
        x.note(0, 1, 1, 0, 5);
        x.days(30);
        x.spend(4);
        x.image(0);
        x.boiler(0, 3, 0);
        x.type(65);
        x.account(5000);
        Due.is("p2 account", x.account(70), 2);
        figures("p2", x, 70, 0, 0, 1, 0, 0);
        counts("p2", x, 0, 0, 0, 1);
        fraction("p2", x, 3, 1);
        statuses("p2", x, 1, 0, 0);
        Due.is("p2 image stays", x.from(0), 1);
        counts("p2 image", x, 2, 1, 2, 1);
        Due.is("p2 -1", x.account(-1), -2);
        Due.is("p2 1000", x.account(1000), -2);
        counts("p2 refused", x, 2, 1, 2, 1);
        Due.is("p2 999", x.account(999), 2);
        Due.is("p2 0", x.account(0), 0);
        Due.is("p2 pounds", x.now(0), 0);
    }

    private static void p3() {
        BeforeThird x = new BeforeThird();
        int[][] wrong = {{-1, 1, 1}, {6, 1, 1}, {0, 0, 1}, {0, 29, 1}, {0, 1, 0}, {0, 1, 100}};
        for (int[] w : wrong) {
            Due.is("p3 BAD", x.bill(w[0], w[1], w[2]), -2);
        }
        x.spend(1);
        Due.is("p3 refused keeps undo", x.bill(9, 9, 9), -2);
        Due.is("p3 undo there", x.count(2), 1);
        for (int b = 0; b < 7; b++) {
            Due.is("p3 number", x.bill(b % 6, b == 0 ? 1 : 4 * b + 4, b == 6 ? 99 : b + 1), b);
        }
        Due.is("p3 none to undo", x.count(2), 0);
        x.spend(1);
        Due.is("p3 FULL", x.bill(0, 1, 1), -4);
        Due.is("p3 FULL keeps undo", x.count(2), 1);
        Due.is("p3 BAD ahead of FULL", x.bill(0, 0, 1), -2);
        Due.is("p3 kind", x.of(5, 0), 5);
        Due.is("p3 day", x.of(6, 1), 28);
        Due.is("p3 pounds", x.of(6, 2), 99);
        statuses("p3", x, 8, 0, 1);
    }

    private static void p4to5() {
        BeforeThird x = new BeforeThird();
        Due.is("p5 empty", x.clear(), 0);
        Due.is("p4 -1", x.type(-1), -2);
        Due.is("p4 128", x.type(128), -2);
        for (int i = 1; i <= 150; i++) {
            Due.is("p4 length", x.type(i == 1 ? 0 : 127), i);
        }
        Due.is("p4 FULL", x.type(32), -4);
        Due.is("p4 BAD ahead of FULL", x.type(128), -2);
        Due.is("p4 count", x.count(3), 150);
        Due.is("p5 clear", x.clear(), 150);
        Due.is("p5 count", x.count(3), 0);
        Due.is("p4 anew", x.type(59), 1);
        Due.is("p6 what was cleared is gone", x.read(), -10);
        statuses("p4", x, 3, 0, 1);
    }

    private static void p6() {
        BeforeThird x = with(9);
        x.bill(0, 1, 5);
        x.note(0, 1, 1, 0, 5);
        x.days(40);
        x.image(1);
        x.boiler(0, 5, 0);
        type(x, "account 7;spend 4;bill 5 28 9;jar 3;spend 30;jar 99;bill 0 01 1;");
        Due.is("p6 items", x.read(), 7);
        figures("p6", x, 70, 99, 0, 1, 0, 30);
        counts("p6", x, 2, 0, 0, 64);
        Due.is("p6 kind", x.of(0, 0), 5);
        Due.is("p6 day", x.of(0, 1), 28);
        Due.is("p6 pounds", x.of(0, 2), 9);
        Due.is("p6 two figures", x.of(1, 1), 1);
        fraction("p6 stays", x, 5, 1);
        Due.is("p6 again", x.read(), 7);
        Due.is("p6 image stays", x.from(1), 1);
        Due.is("p6 image's month", x.now(4), 1);
        type(x, "  account99 ;  ");
        Due.is("p6 blanks", x.read(), 1);
        figures("p6 as at first", x, 990, 0, 0, 1, 0, 0);
        counts("p6 as at first", x, 0, 0, 0, 15);
        type(x, "account 0;bill0 1 60;");
        Due.is("p6 no blank needed", x.read(), 2);
        StringBuilder longest = new StringBuilder("account 1;");
        while (longest.length() + 6 <= 150) {
            longest.append("jar 2;");
        }
        type(x, longest.toString());
        Due.is("p6 long", x.read(), 24);
        statuses("p6", x, 0, 0, 0);
    }

    private static void fault(String text, int place) {
        BeforeThird x = with(33);
        x.bill(3, 2, 1);
        x.note(0, 1, 1, 0, 5);
        x.spend(5);
        type(x, text);
        long before = x.digest();
        Due.is("p6 fault of '" + text + "'", x.read(), -10 - place);
        Due.is("p6 all stays", x.digest(), before);
        statuses("p6 no refusal", x, 0, 0, 0);
    }

    private static void p6faults() {
        String a = "account 5;";
        fault("", 0);
        fault("   ", 3);
        fault("accoun 5;", 0);
        fault("accounts 5;", 0);
        fault("Account 5;", 0);
        fault("bill 0 1 1;account 5;", 0);
        fault("spend 1;", 0);
        fault("jar 1;", 0);
        fault(" 5;", 1);
        fault("account", 7);
        fault("account ", 8);
        fault("account 5", 9);
        fault("account 5 ", 10);
        fault("account 100;", 8);
        fault("account 000", 8);
        fault("account -1;", 8);
        fault("account ;", 8);
        fault("account\t5;", 7);
        fault("account account 5;", 8);
        fault("account 5 6;", 10);
        fault("account 5bill", 9);
        fault(a + ";", 10);
        fault(a + " account 6;", 11);
        fault(a + "bil 0 1 1;", 10);
        fault(a + "bill", 14);
        fault(a + "bill 6 1 1;", 15);
        fault(a + "bill 5 0 1;", 17);
        fault(a + "bill 5 29 1;", 17);
        fault(a + "bill 5 28 0;", 20);
        fault(a + "bill 5 28 100;", 20);
        fault(a + "bill 5 28;", 19);
        fault(a + "bill 5 28 1 1;", 22);
        fault(a + "bill 5 28 1", 21);
        fault(a + "spend 31;", 16);
        fault(a + "spend 3", 17);
        fault(a + "jar 100;", 14);
        fault(a + "jar x;", 14);
        fault(a + "jars 1;", 10);
        fault(a + "7;", 10);
        fault(a + "1234;", 10);
        fault(a + "\u007f", 10);
        String seven = a + "bill 0 1 1;".repeat(7);
        fault(seven + "bill", 87);
        fault(seven + " bill 9", 88);
        BeforeThird x = new BeforeThird();
        type(x, seven + "jar 1;");
        Due.is("p6 seven bills", x.read(), 9);
    }

    private static void p7() {
        BeforeThird x = with(10);
        x.bill(0, 1, 4);
        x.bill(0, 2, 7);
        Due.is("p7 charges", x.days(2), 1);
        figures("p7", x, -2, 0, 1, 3, 0, 0);
        Due.is("p7 one to undo", x.count(2), 1);
        Due.is("p7 goes on", x.days(26), 26);
        figures("p7 month", x, -28, 0, 27, 1, 1, 0);
        for (int n : new int[] {0, 100, -1, Integer.MIN_VALUE, Integer.MAX_VALUE}) {
            Due.is("p7 BAD", x.days(n), -2);
        }
        Due.is("p7 refused is none to undo", x.count(2), 2);
        x = with(0);
        x.bill(5, 1, 10);
        x.spend(10);
        Due.is("p7 pay ahead of spending ahead of charges", x.days(1), 0);
        Due.is("p7 nothing is not below", x.now(0), 0);
        x = with(900);
        x.bill(2, 3, 1);
        x.bill(4, 3, 2);
        x.bill(1, 28, 4);
        x.days(3);
        Due.is("p7 month 0", x.now(0), 900 - 1 - 20);
        x.days(99);
        Due.is("p7 months 0 to 3", x.now(0), 900 - 21 - 12 - 1);
        Due.is("p7 day", x.now(3), 19);
        Due.is("p7 month", x.now(4), 3);
    }

    private static void p7lastDay() {
        BeforeThird x = with(999);
        x.bill(0, 28, 1);
        x.bill(5, 28, 1);
        for (int i = 0; i < 282; i++) {
            x.days(99);
        }
        x.days(27999 - 282 * 99);
        // Pay told for 28 comes on 27: a thousand times by now, the bill one time fewer.
        figures("p7 last day", x, 1000, 0, 0, 28, 999, 0);
        x.days(3);
        figures("p7 it comes again", x, 997, 0, 0, 28, 999, 0);
        Due.is("p10 undone there", x.undo(), 28);
        Due.is("p10 pounds there", x.now(0), 1000);
    }

    private static void p8() {
        BeforeThird x = new BeforeThird();
        Due.is("p8 was 0", x.spend(30), 0);
        Due.is("p8 was 30", x.spend(7), 30);
        Due.is("p8 31", x.spend(31), -2);
        Due.is("p8 -1", x.spend(-1), -2);
        Due.is("p8 now", x.now(5), 7);
        Due.is("p8 the same counts", x.spend(7), 7);
        Due.is("p8 to undo", x.count(2), 3);
    }

    private static void p9() {
        BeforeThird x = with(50);
        Due.is("p9 in", x.jar(20), 20);
        figures("p9", x, 30, 20);
        Due.is("p9 too many in", x.jar(31), -3);
        Due.is("p9 all in", x.jar(30), 50);
        Due.is("p9 too many out", x.jar(-51), -3);
        Due.is("p9 out", x.jar(-45), 5);
        figures("p9", x, 45, 5);
        Due.is("p9 100", x.jar(100), -2);
        Due.is("p9 -100", x.jar(-100), -2);
        Due.is("p9 least", x.jar(Integer.MIN_VALUE), -2);
        Due.is("p9 to undo", x.count(2), 3);
        x.bill(0, 1, 60);
        x.days(1);
        Due.is("p9 below 0", x.now(0), -16);
        Due.is("p9 none by it", x.jar(0), 5);
        Due.is("p9 into it from below", x.jar(1), -3);
        Due.is("p9 back, though it stays below", x.jar(-4), 1);
        Due.is("p9 pounds", x.now(0), -12);
        statuses("p9", x, 3, 3, 0);
    }

    private static void p10() {
        BeforeThird x = with(40);
        x.spend(3);
        x.jar(9);
        x.days(27);
        x.days(3);
        figures("p10", x, -59 - 20, 9, 20, 3, 1, 3);
        Due.is("p10 days", x.undo(), 28);
        figures("p10 days", x, -50 - 17, 9, 17, 28, 0, 3);
        Due.is("p10 days", x.undo(), 1);
        figures("p10 days", x, 31, 9, 0, 1, 0, 3);
        Due.is("p10 jar", x.undo(), 1);
        figures("p10 jar", x, 40, 0, 0, 1, 0, 3);
        Due.is("p10 spending", x.undo(), 1);
        figures("p10 spending", x, 40, 0, 0, 1, 0, 0);
        Due.is("p10 none", x.undo(), -3);
        for (int i = 1; i <= 10; i++) {
            x.spend(i);
        }
        for (int i = 9; i >= 2; i--) {
            x.undo();
            Due.is("p10 eight at most", x.now(5), i);
        }
        Due.is("p10 none of older ones", x.undo(), -3);
        x.bill(0, 1, 1);
        x.note(0, 1, 1, 0, 1);
        x.spend(1);
        Due.is("p10 bills and notes stay", x.undo(), 1);
        counts("p10", x, 1, 1, 0, 0);
        x.spend(1);
        x.account(1);
        Due.is("p10 none behind an account", x.undo(), -3);
        x.spend(1);
        x.bill(0, 1, 1);
        Due.is("p10 none behind a bill", x.undo(), -3);
        statuses("p10", x, 0, 4, 0);
    }

    private static void p11() {
        BeforeThird x = new BeforeThird();
        int[] days = {7, 14, 21, 28, 1, 15};
        int[][] on = {
            {7, 14, 21, 28, 1, 15}, {8, 15, 22, 27, 1, 15}, {7, 14, 21, 28, 1, 15},
            {21, 28, 7, 14, 15, 1}, {7, 14, 21, 28, 1, 15}, {8, 15, 22, 27, 1, 15}};
        int[][] pounds = {{9, 9, 9, 9}, {9, 9, 9, 9}, {9, 0, 9, 9}, {9, 9, 9, 9}, {90, 0, 0, 90}, {-9, -9, -9, -9}};
        for (int kind = 0; kind < 6; kind++) {
            x.account(0);
            for (int i = 0; i < 6; i++) {
                x.bill(kind, days[i], 9);
                Due.is("p11 kind", x.of(i, 0), kind);
                Due.is("p11 day", x.of(i, 1), days[i]);
                Due.is("p11 pounds", x.of(i, 2), 9);
                Due.is("p11 drawn on, kind " + kind, x.of(i, 3), on[kind][i]);
            }
            Due.is("p11 in month 0", x.of(0, 4), pounds[kind][0]);
            x.days(28);
            Due.is("p11 in month 1", x.of(0, 4), pounds[kind][1]);
            x.days(56);
            Due.is("p11 in month 3", x.of(0, 4), pounds[kind][2]);
            x.days(84);
            x.days(84);
            x.days(84);
            Due.is("p11 in month 12", x.of(0, 4), pounds[kind][3]);
        }
        for (int[] w : new int[][] {{-1, 0}, {6, 0}, {0, 5}, {0, -1}, {7, 0}, {Integer.MAX_VALUE, 0}}) {
            Due.is("p11 BAD", x.of(w[0], w[1]), -10000);
        }
        statuses("p11", x, 6, 0, 0);
    }

    private static void p12() {
        BeforeThird x = new BeforeThird();
        for (int what : new int[] {-1, 6, Integer.MIN_VALUE, Integer.MAX_VALUE}) {
            Due.is("p12 BAD", x.now(what), FAR);
        }
        statuses("p12", x, 4, 0, 0);
        x.spend(2);
        x.days(3);
        figures("p12", x, -9, 0, 3, 4, 0, 2);
    }

    private static void p13() {
        BeforeThird x = with(100);
        x.bill(0, 5, 10);
        x.bill(1, 7, 20);
        x.bill(3, 20, 40);
        x.bill(5, 9, 99);
        x.bill(2, 28, 3);
        Due.is("p13 all", x.truly(), 100 - 10 - 20 - 40 - 3);
        x.days(4);
        Due.is("p13 today's too", x.truly(), 27);
        x.days(3);
        Due.is("p13 moved one stands", x.truly(), 100 - 10 - 40 - 20 - 3);
        x.days(21);
        Due.is("p13 next month, no quarter", x.truly(), 126 - 70);
    }

    private static void p14to16() {
        BeforeThird x = with(10);
        x.bill(0, 3, 12);
        x.bill(5, 10, 30);
        x.spend(1);
        long before = x.digest();
        Due.is("p14 in 0", x.then(0, 0), 10);
        Due.is("p14 charges in 0", x.then(0, 1), 0);
        Due.is("p14 in 2", x.then(2, 0), 8);
        Due.is("p14 in 3", x.then(3, 0), 10 - 3 - 12 - 1);
        Due.is("p14 charges in 3", x.then(3, 1), 1);
        Due.is("p14 in 9", x.then(9, 0), -18);
        Due.is("p14 in 10", x.then(10, 0), 11);
        Due.is("p14 charges in 10", x.then(10, 1), 7);
        Due.is("p15 of 1", x.low(1, 0), 9);
        Due.is("p15 of 1 in", x.low(1, 1), 1);
        Due.is("p15 of 28", x.low(28, 0), -18);
        Due.is("p15 of 28 in", x.low(28, 1), 9);
        Due.is("p16 below", x.below(), 3);
        Due.is("nothing is changed", x.digest(), before);
        int[][] wrong = {{100, 0}, {-1, 0}, {5, 2}, {5, -1}};
        for (int[] w : wrong) {
            Due.is("p14 BAD", x.then(w[0], w[1]), FAR);
            Due.is("p15 BAD", x.low(w[0], w[1]), FAR);
        }
        Due.is("p15 BAD 0", x.low(0, 0), FAR);
        statuses("p14", x, 9, 0, 0);
        x = with(5);
        Due.is("p15 the first of like ones", x.low(99, 1), 1);
        Due.is("p16 none", x.below(), -1);
        x = with(98);
        x.spend(1);
        Due.is("p16 the last", x.below(), 99);
        x = with(99);
        x.spend(1);
        Due.is("p16 too far", x.below(), -1);
        statuses("p16", x, 0, 0, 0);
    }

    private static void p17() {
        BeforeThird x = with(100);
        x.bill(0, 4, 20);
        x.bill(5, 5, 99);
        x.spend(9);
        Due.is("p17 capped", x.most(3), 30);
        Due.is("p17 by day 4", x.most(4), 20);
        Due.is("p17 by day 10", x.most(10), 17);
        Due.is("p17 spending stays", x.now(5), 9);
        Due.is("p17 far", x.most(32), 4);
        x = with(7);
        Due.is("p17 exactly nothing left", x.most(7), 1);
        Due.is("p17 0", x.most(8), 0);
        x.bill(0, 1, 8);
        Due.is("p17 none", x.most(1), -1);
        Due.is("p17 BAD 0", x.most(0), -2);
        Due.is("p17 BAD 100", x.most(100), -2);
        statuses("p17", x, 2, 0, 0);
    }

    private static void p18() {
        BeforeThird x = with(10);
        x.spend(3);
        x.bill(0, 2, 7);
        x.bill(5, 6, 50);
        Due.is("p18 of 1", x.need(1), 0);
        Due.is("p18 of 2", x.need(2), 3);
        Due.is("p18 of 5", x.need(5), 12);
        Due.is("p18 of 20", x.need(20), 12);
        Due.is("p18 BAD 0", x.need(0), -2);
        Due.is("p18 BAD 100", x.need(100), -2);
        x = with(0);
        x.spend(30);
        Due.is("p18 990", x.need(33), 990);
        Due.is("p18 none", x.need(34), -1);
        statuses("p18", x, 0, 0, 0);
        x = with(21);
        x.spend(30);
        Due.is("p18 999", x.need(34), 999);
        x = with(20);
        x.spend(30);
        Due.is("p18 1000", x.need(34), -1);
    }

    private static void p19() {
        BeforeThird x = with(0);
        Due.is("p19 no bills", x.move(), -1);
        x.bill(0, 3, 10);
        x.bill(5, 20, 10);
        // Charges on days 3 to 19 are 17; moved behind pay, the bill costs none; pay on day 1 too,
        // but the bill is the lower number.
        Due.is("p19 behind pay", x.move(), 20);
        x = with(10);
        x.bill(0, 3, 10);
        Due.is("p19 none is fewer", x.move(), -1);
        x = with(0);
        x.bill(5, 20, 10);
        x.bill(3, 17, 10);
        // The card told for 17 is drawn on 3; pay told for 1 comes in time, and so for 2 and 3.
        Due.is("p19 pay first", x.move(), 1);
        x.days(1);
        Due.is("p19 told for 1 it comes too late now", x.move(), 2);
        x = with(0);
        x.bill(2, 3, 10);
        x.bill(1, 7, 10);
        x.days(3);
        long before = x.digest();
        // Day 4: 11 below. A quarter told for any day of month 1 draws nothing, so 1 is like 3.
        Due.is("p19 the moved one costs no charge that is not there", x.move(), -1);
        Due.is("p19 nothing is changed", x.digest(), before);
    }

    private static void p20() {
        BeforeThird x = new BeforeThird();
        int[] want = {0, 0, -8 * 5, 0, -2 * 5, -24 * 5};
        for (int kind = 0; kind < 6; kind++) {
            x.bill(kind, 7, 5);
            Due.is("p20 kind " + kind, x.monthly(kind), want[kind]);
        }
        x.days(40);
        Due.is("p20 any twelve months", x.monthly(4), -10);
        Due.is("p20 -1", x.monthly(-1), FAR);
        Due.is("p20 6", x.monthly(6), FAR);
        statuses("p20", x, 2, 0, 0);
    }

    private static void p21() {
        BeforeThird x = with(0);
        Due.is("p21 none", x.dear(), -1);
        x.bill(0, 20, 5);
        x.bill(0, 2, 5);
        x.bill(0, 2, 5);
        // Without 0 charges run from day 2 all the same; so they do without 1 or 2: all are alike.
        Due.is("p21 the first of like ones", x.dear(), 0);
        x = with(5);
        x.bill(0, 20, 5);
        x.bill(0, 10, 1);
        Due.is("p21 either leaves none", x.dear(), 0);
        x.bill(0, 3, 5);
        // Without 0: from day 10; without 1: from 20; without 2: from 20.
        Due.is("p21 dearest", x.dear(), 1);
        x = with(3);
        x.bill(5, 1, 9);
        x.bill(0, 2, 9);
        Due.is("p21 pay is none to miss, nor is the other", x.dear(), 1);
        x = with(3);
        Due.is("p21 again none", x.dear(), -1);
        statuses("p21", x, 0, 0, 0);
    }

    private static void p22to23() {
        BeforeThird x = new BeforeThird();
        Due.is("p22 no bill", x.note(0, 1, 1, 0, 0), -2);
        x.bill(0, 1, 1);
        int[][] wrong = {
            {-1, 1, 1, 0, 0}, {1, 1, 1, 0, 0}, {0, 0, 1, 0, 0}, {0, 29, 1, 0, 0}, {0, 1, 0, 0, 0}, {0, 1, 29, 0, 0},
            {0, 1, 1, -1, 0}, {0, 1, 1, 41, 0}, {0, 1, 1, 0, -1000}, {0, 1, 1, 0, 1000}};
        for (int[] w : wrong) {
            Due.is("p22 BAD", x.note(w[0], w[1], w[2], w[3], w[4]), -2);
        }
        Due.is("p23 none", x.forget(), 0);
        Due.is("p22 first", x.note(0, 28, 28, 40, 999), 1);
        Due.is("p22 second", x.note(0, 1, 1, 0, -999), 2);
        for (int i = 3; i <= 6; i++) {
            Due.is("p22 number", x.note(0, 1, 1, 0, 0), i);
        }
        Due.is("p22 FULL", x.note(0, 1, 1, 0, 0), -4);
        Due.is("p22 BAD ahead of FULL", x.note(1, 1, 1, 0, 0), -2);
        Due.is("p23 forget", x.forget(), 6);
        Due.is("p23 count", x.count(1), 0);
        Due.is("p22 anew", x.note(0, 1, 1, 0, 0), 1);
        statuses("p22", x, 12, 0, 1);
    }

    private static void p24() {
        BeforeThird x = new BeforeThird();
        x.bill(0, 1, 9);
        x.bill(0, 1, 9);
        Due.is("p24 no notes", x.is(0), 63);
        x.note(0, 7, 8, 1, 9);
        Due.is("p24 moved", x.is(0), 2);
        Due.is("p24 of the other none", x.is(1), 63);
        x.forget();
        x.note(0, 3, 3, 3, 9);
        Due.is("p24 plain, moved, quarter", x.is(0), 7);
        x.note(0, 3, 3, 1, 9);
        Due.is("p24 plain, moved", x.is(0), 3);
        x.note(0, 7, 7, 0, 9);
        Due.is("p24 plain", x.is(0), 1);
        x.note(0, 7, 7, 0, 8);
        Due.is("p24 none", x.is(0), 0);
        x.note(1, 20, 6, 5, 9);
        Due.is("p24 card", x.is(1), 8);
        x.forget();
        x.note(1, 28, 28, 24, 90);
        Due.is("p24 yearly", x.is(1), 16);
        x.note(0, 28, 27, 40, -9);
        Due.is("p24 pay", x.is(0), 32);
        x.forget();
        x.note(1, 5, 5, 7, 0);
        Due.is("p24 quarter, yearly", x.is(1), 20);
        x.account(0);
        Due.is("p24 BAD", x.is(0), -2);
        Due.is("p24 -1", x.is(-1), -2);
        statuses("p24", x, 2, 0, 0);
    }

    private static void p25() {
        BeforeThird x = new BeforeThird();
        x.bill(0, 1, 9);
        // Month 0: plain, moved, quarter alike. Month 1: plain and moved, quarter and yearly.
        Due.is("p25 all kinds", x.look(0), 1);
        x.bill(0, 7, 9);
        // On a sunday, month 0: plain and quarter alike, no more than in month 1.
        Due.is("p25 sunday", x.look(1), 0);
        x.note(0, 3, 3, 3, 9);
        Due.is("p25 plain, moved, quarter", x.look(0), 1);
        x.note(1, 5, 5, 7, 0);
        Due.is("p25 quarter, yearly", x.look(1), 0);
        x.note(1, 5, 5, 0, 9);
        Due.is("p25 quarter alone", x.look(1), 0);
        x.note(1, 5, 5, 0, 8);
        Due.is("p25 none", x.look(1), -1);
        Due.is("p25 BAD", x.look(2), -2);
        Due.is("p25 -1", x.look(-1), -2);
        statuses("p25", x, 2, 0, 0);
    }

    private static void p26() {
        BeforeThird x = with(999);
        // Never a charge: each takes all.
        Due.is("p26 one", x.two(28, -1), 1);
        Due.is("p26 all", x.two(28, 0), 15);
        Due.is("p26 no second", x.two(28, 1), -5);
        Due.is("p26 far", x.two(28, Integer.MAX_VALUE), -5);
        x = with(28);
        // Up to 1 together there are no charges; beyond, 14 or more. Nobody's 9 outweighs 14, but
        // where charges run anyway each takes 3: 1 alone, 2 alone is never at rest.
        Due.is("p26 how many", x.two(28, -1), 3);
        Due.is("p26 0 and 1", x.two(28, 0), 1);
        Due.is("p26 1 and 0", x.two(28, 1), 4);
        Due.is("p26 3 and 3", x.two(28, 2), 15);
        Due.is("p26 no more", x.two(28, 3), -5);
        long before = x.digest();
        x.two(28, 0);
        Due.is("p26 nothing is changed", x.digest(), before);
        for (int[] w : new int[][] {{0, -1}, {29, -1}, {5, -2}, {5, Integer.MIN_VALUE}, {-1, 0}}) {
            Due.is("p26 BAD", x.two(w[0], w[1]), -10);
        }
        statuses("p26", x, 5, 0, 0);
    }

    private static void p27and29() {
        BeforeThird x = with(50);
        x.bill(0, 11, 45);
        Due.is("p27 boiler", x.boiler(20, 28, 4), 1);
        // Whole it costs none; burst, 30 - 45 on day 11 is below from there on: 18 charges.
        fraction("p27", x, 36, 5);
        x.boiler(60, 3, 10);
        fraction("p27 at once", x, 3, 1);
        x.boiler(60, 3, 5);
        fraction("p27 half", x, 3, 2);
        x.boiler(60, 3, 1);
        fraction("p27 tenths", x, 3, 10);
        x.boiler(999, 28, 0);
        fraction("p27 by none", x, 0, 1);
        x.boiler(51, 99, 10);
        fraction("p27 far", x, 99, 1);
        x.boiler(999, 0, 10);
        fraction("p27 in no days", x, 0, 1);
        x.boiler(60, 3, 1);
        int[][] wrong = {{-1, 0, 0}, {1000, 0, 0}, {0, -1, 0}, {0, 100, 0}, {0, 0, -1}, {0, 0, 11}};
        for (int[] w : wrong) {
            Due.is("p27 BAD", x.boiler(w[0], w[1], w[2]), -2);
        }
        fraction("p27 refused", x, 3, 10);
        Due.is("p27 pounds stay", x.now(0), 50);
        Due.is("p29 -1", x.part(-1), -2);
        Due.is("p29 2", x.part(2), -2);
        statuses("p27", x, 8, 0, 0);
    }

    private static void p28() {
        BeforeThird x = with(100);
        x.spend(30);
        Due.is("p28 no days", x.years(5, 0), 100);
        // Seed 0: X is 12345 (by 65536: 0), then 12345 * 1103515245 + 12345 by 2^31: 1406932606 (21468, by 31: 16).
        Due.is("p28 a day", x.years(0, 1), 100);
        Due.is("p28 two days", x.years(0, 2), 84);
        x.bill(0, 2, 84);
        Due.is("p28 exactly nothing", x.years(0, 2), 0);
        x.account(99);
        x.bill(0, 2, 84);
        Due.is("p28 charged", x.years(0, 2), -2);
        Due.is("p28 -1", x.years(-1, 0), FAR);
        Due.is("p28 1000000", x.years(1000000, 0), FAR);
        Due.is("p28 -1 days", x.years(0, -1), FAR);
        Due.is("p28 61 days", x.years(0, 61), FAR);
        Due.is("p28 nothing is changed", x.now(0), 99);
        statuses("p28", x, 4, 0, 0);
    }

    private static void p30to31() {
        BeforeThird x = with(10);
        x.bill(0, 2, 3);
        x.note(0, 2, 2, 0, 3);
        x.spend(1);
        x.days(30);
        Due.is("p31 none kept", x.from(1), -3);
        Due.is("p30 kept", x.image(1), 1);
        long kept = x.digest();
        Due.is("p31 still none", x.from(0), -3);
        x.undo();
        x.forget();
        x.bill(5, 2, 9);
        x.image(0);
        Due.is("p31 goes on", x.from(1), 1);
        Due.is("p31 all of it", x.digest(), kept);
        Due.is("p31 undo kept", x.undo(), 1);
        Due.is("p31 undo kept", x.undo(), 1);
        Due.is("p31 no more", x.undo(), -3);
        Due.is("p31 the other", x.from(0), 1);
        counts("p31 the other", x, 2, 0, 0, 0);
        x.from(1);
        Due.is("p31 an image stays as it was", x.digest(), kept);
        x.type(65);
        x.boiler(999, 1, 10);
        x.from(1);
        Due.is("p31 the text stays", x.count(3), 1);
        fraction("p31 stays", x, 1, 1);
        for (int i : new int[] {-1, 2}) {
            Due.is("p30 BAD", x.image(i), -2);
            Due.is("p31 BAD", x.from(i), -2);
        }
        statuses("p31 status stays", x, 4, 3, 0);
    }

    private static void p32() {
        BeforeThird x = new BeforeThird();
        x.undo();
        Due.is("p32 other", x.status(3), -1);
        Due.is("p32 other", x.status(-1), -1);
        statuses("p32", x, 2, 1, 0);
        x.two(1, 99);
        x.below();
        x.dear();
        x.read();
        statuses("p32 none and faults are no refusals", x, 2, 1, 0);
    }

    private static void p33() {
        BeforeThird x = new BeforeThird();
        x.bill(0, 1, 1);
        x.bill(0, 1, 1);
        x.bill(0, 1, 1);
        x.note(0, 1, 1, 0, 1);
        x.note(0, 1, 1, 0, 1);
        x.spend(1);
        x.type(1);
        x.type(1);
        x.type(1);
        x.type(1);
        counts("p33", x, 3, 2, 1, 4);
        Due.is("p33 -1", x.count(-1), -2);
        Due.is("p33 4", x.count(4), -2);
        statuses("p33", x, 2, 0, 0);
    }

    private static void p34() {
        BeforeThird x = new BeforeThird();
        Due.is("p34 new", x.digest(), digestOf(0, 0, 0, 0, 0, 0, 0, 1, 0, 0, 0, 1));
        x.account(20);
        x.bill(5, 27, 98);
        x.bill(2, 3, 4);
        x.note(1, 5, 6, 7, -8);
        x.spend(2);
        x.jar(5);
        x.days(8);
        x.boiler(0, 10, 1);
        x.boiler(30, 3, 1);
        x.type(9);
        // 15 less 4 less 16 is 5 below on day 8: from day 6 on (15 - 4 - 12 is 1 below) 3 charges.
        Due.is("p34", x.digest(), digestOf(2, 1, 3, 1, -8, 5, 3, 9, 0, 2, 5, 27, 98, 2, 3, 4, 1, 5, 6, 7, -8, 3, 1));
        x.status(9);
        x.image(0);
        Due.is("p34 no status, no images",
            x.digest(), digestOf(2, 1, 3, 1, -8, 5, 3, 9, 0, 2, 5, 27, 98, 2, 3, 4, 1, 5, 6, 7, -8, 3, 1));
    }

    private static void beyondLastMonth() {
        BeforeThird x = with(999);
        x.bill(4, 1, 1);
        x.bill(2, 28, 2);
        x.bill(0, 28, 3);
        x.bill(5, 28, 5);
        for (int i = 0; i < 283; i++) {
            x.days(99);
        }
        Due.is("2 the last day", x.now(3), 28);
        Due.is("2 the last month", x.now(4), 999);
        int pounds = x.now(0);
        Due.is("2 that day", x.then(1, 0), pounds - 5);
        Due.is("2 month 1000", x.then(29, 0), pounds - 5 + 5 - 3);
        Due.is("2 months 999 to 1010", x.monthly(0), 10 - 12);
        Due.is("2 quarters 999 to 1008", x.monthly(1), 4 * 2 - 24);
        Due.is("2 truly", x.truly(), pounds - 5);
    }
}
