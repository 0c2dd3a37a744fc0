/** The boundary cases of the text: its bytes, its tokens, its items, and the place of its fault. */
public final class TextTest extends Asking {
    private static final String A = "account 5;";
    private static final String BILL = "bill 0 1 1;";

    public static void main(String[] args) {
        bytes();
        cleared();
        fullTexts();
        items();
        accountNumbers();
        accountOnce();
        billNumbers();
        spending();
        jar();
        toldAgain();
        words();
        everyByteBehindAWord();
        everyByteBehindANumber();
        everyByteForAnItem();
        figuresRun();
        blanks();
        endedByStops();
        noSuchWord();
        aheadOfAccount();
        eighthBill();
        notAsTold();
        wrongSort();
        endsTooEarly();
        emptyTexts();
        theFirstFault();
        takesThePlace();
        allStays();
        Due.end();
    }

    private static BeforeThird typed(String text) {
        BeforeThird x = new BeforeThird();
        type(x, text);
        return x;
    }

    private static BeforeThird reads(String text, int items) {
        BeforeThird x = typed(text);
        Due.is("'" + text + "'", x.read(), items);
        return x;
    }

    private static void fault(String text, int place) {
        BeforeThird x = typed(text);
        Due.is("the fault of '" + text + "'", x.read(), -10 - place);
    }

    private static void bytes() {
        said("A byte (0 .. 127) comes behind THE TEXT: how many it has. BAD; FULL.");
        BeforeThird x = new BeforeThird();
        Due.is("0", x.type(0), 1);
        Due.is("127", x.type(127), 2);
        Due.is("-1", x.type(-1), BAD);
        Due.is("128", x.type(128), BAD);
        Due.is("a refused one doesn't come", x.count(3), 2);
        said("THE ACCOUNT is told by a TEXT (150 bytes at most)");
        for (int i = 3; i <= 150; i++) {
            Due.is("a byte", x.type(i % 128), i);
        }
        Due.is("no 151st", x.type(59), FULL);
        Due.is("nor another", x.type(59), FULL);
        Due.is("it has 150", x.count(3), 150);
        statuses("refused", x, 2, 0, 2);
    }

    private static void cleared() {
        said("THE TEXT is empty: how many it had.");
        BeforeThird x = new BeforeThird();
        Due.is("none", x.clear(), 0);
        x.type('a');
        Due.is("one", x.clear(), 1);
        Due.is("none again", x.clear(), 0);
        for (int i = 0; i < 152; i++) {
            x.type(' ');
        }
        Due.is("all", x.clear(), 150);
        Due.is("it is empty", x.count(3), 0);
        Due.is("a first one again", x.type('a'), 1);
        type(x, A);
        x.clear();
        Due.is("nothing of it is read", x.read(), -10);
        x.type(';');
        Due.is("nor of what was behind it", x.read(), -10);
        statuses("refused", x, 0, 0, 2);
        x = new BeforeThird();
        type(x, "account 99;jar 99;");
        type(x, "account 9");
        Due.is("a figure behind the end is gone", x.read(), -19);
        type(x, "account 9;jar");
        Due.is("a blank behind the end is gone", x.read(), -23);
        type(x, "account 9;ja");
        Due.is("a letter behind the end is gone", x.read(), -20);
        type(x, "account");
        Due.is("so is all of it", x.read(), -17);
    }

    private static String grownTo(int length) {
        StringBuilder s = new StringBuilder(A);
        while (s.length() + 6 <= length) {
            s.append("jar 7;");
        }
        while (s.length() < length) {
            s.insert(8, ' ');
        }
        return s.toString();
    }

    private static void fullTexts() {
        said("THE ACCOUNT is told by a TEXT (150 bytes at most)");
        for (int length = 144; length <= 150; length++) {
            String text = grownTo(length);
            BeforeThird x = reads(text, 1 + (length - 10) / 6);
            Due.is("its jar", x.now(JAR), 7);
            Due.is("its length", x.count(3), length);
            fault(text.substring(0, length - 1), length - 1);
        }
        BeforeThird x = typed(grownTo(149).substring(0, 148) + "  ");
        Due.is("no place for its end", x.type(';'), FULL);
        Due.is("so it ends too early", x.read(), -10 - 150);
        fault(grownTo(149).substring(0, 148) + " 9", 149);
        fault(" ".repeat(149) + ";", 149);
        fault(" ".repeat(150), 150);
        fault("a".repeat(150), 0);
        fault(A + "1".repeat(140), 10);
        fault(A + ";".repeat(140), 10);
        fault(" ".repeat(143) + "account", 150);
        fault(" ".repeat(142) + "account5", 150);
        x = reads(" ".repeat(141) + "account5;", 1);
        Due.is("at the very end", x.now(ACCOUNT), 50);
        x = reads("account5;" + "jar6;".repeat(27) + "jar77;", 29);
        Due.is("as many items as there can be", x.now(JAR), 77);
        Due.is("in 150 bytes", x.count(3), 150);
    }

    private static void items() {
        said("THE ACCOUNT is read: how many ITEMS.");
        reads("account 0;", 1);
        reads("account 0;jar 0;", 2);
        BeforeThird x = reads(A + "bill 5 28 99;jar 99;spend 30;", 4);
        figures("each", x, 50, 99, 0, 1, 0, 30);
        Due.is("the bill's kind", x.of(0, 0), 5);
        Due.is("the bill's day", x.of(0, 1), 28);
        Due.is("the bill's pounds", x.of(0, 2), 99);
        Due.is("read again", x.read(), 4);
        Due.is("it is not read twice over", x.count(0), 1);
        reads(A + BILL.repeat(7) + "jar 1;spend 1;jar 2;", 11);
    }

    private static void accountNumbers() {
        said("account n (0 .. 99; once, first of all: THE ACCOUNT is ten times that)");
        String[] told = {"0", "00", "1", "01", "9", "09", "10", "98", "99"};
        int[] pounds = {0, 0, 10, 10, 90, 90, 100, 980, 990};
        for (int i = 0; i < told.length; i++) {
            Due.is(told[i], reads("account " + told[i] + ";", 1).now(ACCOUNT), pounds[i]);
        }
        fault("account 100;", 8);
        fault("account -1;", 8);
    }

    private static void accountOnce() {
        said("account again");
        fault(A + "account 5;", 10);
        fault(A + " account", 11);
        fault(A + "jar 1;account 5;", 16);
        fault(A + BILL + "spend 1;account", 29);
        fault("account account 5;", 8);
    }

    private static void billNumbers() {
        said("bill KIND DAY POUNDS");
        for (int kind = 0; kind <= 5; kind++) {
            BeforeThird x = reads(A + "bill " + kind + " 1 99;bill 0" + kind + " 28 01;", 3);
            Due.is("kind", x.of(0, 0), kind);
            Due.is("kind by two figures", x.of(1, 0), kind);
            Due.is("day 1", x.of(0, 1), 1);
            Due.is("day 28", x.of(1, 1), 28);
            Due.is("99 pounds", x.of(0, 2), 99);
            Due.is("a pound", x.of(1, 2), 1);
        }
        fault(A + "bill 6 1 1;", 15);
        fault(A + "bill 10 1 1;", 15);
        fault(A + "bill 99 1 1;", 15);
        fault(A + "bill 5 0 1;", 17);
        fault(A + "bill 5 00 1;", 17);
        fault(A + "bill 5 29 1;", 17);
        fault(A + "bill 5 28 0;", 20);
        fault(A + "bill 5 28 00;", 20);
        fault(A + "bill 5 28 100;", 20);
        fault(A + "bill;", 14);
        fault(A + "bill 5;", 16);
        fault(A + "bill 5 28;", 19);
        fault(A + "bill 5 28 9 1;", 22);
        fault(A + "bill 5 28 9 bill", 22);
    }

    private static void spending() {
        said("spend n;");
        for (String n : new String[] {"0", "00", "1", "09", "29", "30"}) {
            Due.is(n, reads(A + "spend " + n + ";", 2).now(SPENDING), Integer.parseInt(n));
        }
        fault(A + "spend 31;", 16);
        fault(A + "spend 99;", 16);
        fault(A + "spend 030;", 16);
        fault(A + "spend;", 15);
    }

    private static void jar() {
        said("jar n (0 .. 99)");
        for (String n : new String[] {"0", "00", "1", "09", "98", "99"}) {
            BeforeThird x = reads("account 1;jar " + n + ";", 2);
            Due.is(n, x.now(JAR), Integer.parseInt(n));
            Due.is("it is not taken from the account", x.now(ACCOUNT), 10);
        }
        fault(A + "jar 100;", 14);
        fault(A + "jar -1;", 14);
        fault(A + "jar;", 13);
    }

    private static void toldAgain() {
        said("of ITEMS, each ended by ;");
        BeforeThird x = reads(A + "jar 9;spend 8;jar 0;spend 0;", 5);
        figures("the last one holds", x, 50, 0, 0, 1, 0, 0);
    }

    private static void words() {
        said("words of letters a .. z");
        for (String wrong : new String[] {"`", "{", "A", "Z", "@", "["}) {
            fault(wrong + "account 5;", 0);
            fault("account" + wrong + " 5;", 7);
            fault("acc" + wrong + "ount 5;", 0);
        }
        fault("Account 5;", 0);
        fault("accounT 5;", 0);
        fault(A + "a", 10);
        fault(A + "z", 10);
        fault("zaccount 5;", 0);
        fault("accounta 5;", 0);
        fault("accountz 5;", 0);
    }

    /** 32 ends the word, figures and ; begin the next token, letters go on with it. */
    private static void everyByteBehindAWord() {
        said("TOKENS: words of letters a .. z, figures (1 or 2 are one number), ; ; blanks (32) between.");
        for (int c = 0; c < 128; c++) {
            String text = "account" + (char) c + "5;";
            BeforeThird x = typed(text);
            boolean letter = c >= 97 && c <= 122;
            boolean figure = c >= 48 && c <= 57;
            Due.is("byte " + c + " behind a word", x.read(), letter ? -10 : c == 32 || figure ? 1 : -17);
            if (figure) {
                Due.is("figure " + c, x.now(ACCOUNT), 10 * (10 * (c - 48) + 5));
            }
        }
    }

    private static void everyByteBehindANumber() {
        said("figures (1 or 2 are one number)");
        for (int c = 0; c < 128; c++) {
            BeforeThird x = typed("account 5" + (char) c + ";");
            boolean figure = c >= 48 && c <= 57;
            Due.is("byte " + c + " behind a number", x.read(), c == 32 || figure ? 1 : c == 59 ? -20 : -19);
            if (figure) {
                Due.is("figure " + c, x.now(ACCOUNT), 10 * (50 + c - 48));
            }
        }
        fault("account 5 5;", 10);
        fault(A + "bill 0102 03;", 15);
        BeforeThird x = reads(A + "bill 01 02 03;", 2);
        Due.is("figures apart are numbers apart", x.of(0, 1), 2);
    }

    private static void everyByteForAnItem() {
        said("a byte that begins none, too");
        for (int c = 0; c < 128; c++) {
            if (c != 32) {
                fault("" + (char) c, 0);
                fault(" " + (char) c, 1);
                fault(A + (char) c, 10);
                fault(A + " " + (char) c + "jar 1;", 11);
            }
        }
        fault("account\t5;", 7);
        fault("account\n5;", 7);
        fault("account " + (char) 0, 8);
        fault("account 5" + (char) 127, 9);
        fault(A + "bill 0 1 1,", 20);
        fault(A + "jar +1;", 14);
    }

    private static void figuresRun() {
        said("a run of three figures or more (at its first one)");
        for (String run : new String[] {"000", "001", "100", "999", "0000", "1234567890", "0".repeat(100)}) {
            fault("account " + run + ";", 8);
            fault("account " + run, 8);
            fault("account" + run + ";", 7);
            fault(A + run, 10);
            fault(run, 0);
        }
        fault(A + "bill 000 1 1;", 15);
        fault(A + "bill 0 001 1;", 17);
        fault(A + "bill 0 1 001;", 19);
        fault(A + "bill 0 1 1 001;", 21);
        fault(A + "spend 001;", 16);
        fault(A + "jar 001;", 14);
    }

    private static void blanks() {
        said("blanks (32) between");
        BeforeThird x = reads("  account  7  ;  bill  0  1  2  ;  ", 2);
        Due.is("the account", x.now(ACCOUNT), 70);
        Due.is("the bill", x.of(0, 2), 2);
        reads("account7;bill0 1 2;jar3;spend4;", 4);
        reads("account 5 ;", 1);
        reads("account 5; ", 1);
        fault("acc ount 5;", 0);
        fault("account 5 0;", 10);
        fault("account" + (char) 31 + "5;", 7);
        fault("account" + (char) 33 + "5;", 7);
    }

    private static void endedByStops() {
        said("of ITEMS, each ended by ;");
        fault("account 5 jar 1;", 10);
        fault("account 5jar 1;", 9);
        fault(A + ";", 10);
        fault(A + "jar 1;;", 16);
        fault(A + "jar 1 spend 1;", 16);
        fault(A + BILL + ";", 21);
        fault(";" + A, 0);
        fault(A + "jar 1:", 15);
    }

    private static void noSuchWord() {
        said("a word that is none");
        fault("accounts 5;", 0);
        fault("accoun 5;", 0);
        fault("accoun", 0);
        fault("a", 0);
        for (String word : new String[] {"bil", "bills", "jars", "ja", "spen", "spends", "accounts", "pay", "x"}) {
            fault(A + word + " 1;", 10);
            fault(A + " " + word, 11);
            fault(A + "jar 1; " + word + " 1;", 17);
        }
        fault("accountjar 5;", 0);
        fault(A + "jarjar 1;", 10);
        for (String word : new String[] {"will", "kar", "jbr", "jas", "upend", "spene", "bilk"}) {
            fault(A + word + " 1;", 10);
        }
        fault("bccount 5;", 0);
        fault("accouns 5;", 0);
    }

    private static void aheadOfAccount() {
        said("anything ahead of it");
        fault("bill 0 1 1;account 5;", 0);
        fault("spend 1;account 5;", 0);
        fault("jar 1;account 5;", 0);
        fault(";account 5;", 0);
        fault("5 account 5;", 0);
        fault("-account 5;", 0);
        fault("   jar 1;", 3);
        fault("bill", 0);
        fault("jar", 0);
    }

    private static void eighthBill() {
        said("an 8th bill at its word");
        String seven = A + BILL.repeat(7);
        BeforeThird x = reads(seven, 8);
        Due.is("seven bills", x.count(0), 7);
        Due.is("the seventh", x.of(6, 2), 1);
        fault(seven + BILL, 87);
        fault(seven + " bill", 88);
        fault(seven + "bill 9 99 0", 87);
        fault(seven + "bill -", 87);
        fault(seven + "jar 1;bill", 93);
        fault(seven + "bil", 87);
        x = new BeforeThird();
        for (int b = 0; b < 7; b++) {
            x.bill(1, 2, 3);
        }
        type(x, seven);
        Due.is("bills from before don't count", x.read(), 8);
        Due.is("they are gone", x.of(0, 0), 0);
        type(x, seven + BILL);
        Due.is("at its word", x.read(), -97);
        Due.is("the seven stay", x.count(0), 7);
    }

    private static void notAsTold() {
        said("a number not as told");
        fault(A + "bill 6 99 0;", 15);
        fault(A + "bill 0 99 0;", 17);
        fault(A + "bill 0 28 0;", 20);
        fault(A + "bill 0 28 0", 20);
        fault(A + "spend 31", 16);
        fault(A + "spend  40 x", 17);
    }

    private static void wrongSort() {
        said("the place of the first byte of the first TOKEN that can not stand there");
        fault("account ;", 8);
        fault("account x;", 8);
        fault("account bill;", 8);
        fault(A + "bill x 1 1;", 15);
        fault(A + "bill 0 x 1;", 17);
        fault(A + "bill 0 1 xyz;", 19);
        fault(A + "bill 0 1 ;", 19);
        fault(A + "spend jar;", 16);
        fault(A + "7;", 10);
        fault(A + "   77", 13);
    }

    private static void endsTooEarly() {
        said("the TEXT's length, if it ends too early");
        String whole = "account 5;bill 1 22 33;spend 4;jar 6;";
        for (int length = 0; length <= whole.length(); length++) {
            String part = whole.substring(0, length);
            if (part.endsWith(";")) {
                reads(part, part.length() - part.replace(";", "").length());
            } else if (!part.matches("(.*;)?[a-z]+") || part.matches("(.*;)?(account|bill|spend|jar)")) {
                fault(part, length);
                fault(part + "  ", length + 2);
            } else {
                fault(part, part.lastIndexOf(';') + 1);
            }
        }
    }

    private static void emptyTexts() {
        said("(an empty one, too)");
        Due.is("empty", new BeforeThird().read(), -10);
        fault("", 0);
        fault(" ", 1);
        fault("  ", 2);
        fault(" ".repeat(99), 99);
    }

    private static void theFirstFault() {
        said("FAULT: the place of the first byte of the first TOKEN");
        fault("account 100;account 100;bil", 8);
        fault(A + "bill 6 0 0;account", 15);
        fault(A + "xx;yy;", 10);
        fault("x account", 0);
        fault(A + "jar 1;jar 100;jar 100;", 20);
    }

    private static void takesThePlace() {
        said("An ACCOUNT that is read takes the place of all but IMAGES, THE TEXT, THE FRACTION, STATUS "
            + "(MONTH 0, DAY 1, NOTES none; nothing to undo).");
        BeforeThird x = rich();
        x.days(60);
        x.days(0);
        Due.is("read", x.read(), 2);
        figures("in the place of all", x, 30, 4, 0, 1, 0, 0);
        counts("no bills, no notes, nothing to undo", x, 0, 0, 0, 16);
        Due.is("nothing to undo", x.undo(), NO);
        fraction("it stays", x, 21, 5);
        statuses("it stays", x, 1, 1, 0);
        Due.is("image 0 stays", x.from(0), 1);
        Due.is("image 0 stays", x.now(DAY), 14);
        Due.is("image 1 stays", x.from(1), 1);
        Due.is("image 1 stays", x.count(0), 3);
        x = rich();
        type(x, A + "bill 1 7 9;");
        x.read();
        BeforeThird y = with(50);
        y.bill(1, 7, 9);
        type(y, A + "bill 1 7 9;");
        y.boiler(0, 0, 0);
        x.boiler(0, 0, 0);
        answerAlike("nothing of the old bills is left", x, y);
        Due.is("a new bill in an old one's place", x.of(0, 3), 8);
        Due.is("no notes of the old one", x.is(0), 63);
        Due.is("no second bill", x.of(1, 0), BAD_OF);
        x.days(3);
        Due.is("what comes behind it may be undone", x.undo(), 1);
        Due.is("no more", x.undo(), NO);
    }

    private static void allStays() {
        said("-10 less the FAULT: all stays.");
        String[] wrong = {"", "   ", "x", "account", "account 5", "account 5;bill 0 1 1;spend 9;jar 8;jar", A + "account"};
        for (String text : wrong) {
            BeforeThird x = rich();
            BeforeThird y = rich();
            type(x, text);
            type(y, text);
            Due.holds("a fault", x.read() <= -10);
            statuses("a fault is no refusal", x, 0, 0, 0);
            alike("'" + text + "'", x, y);
        }
        BeforeThird x = rich();
        type(x, A + "jar 8;spend 31;");
        x.read();
        type(x, A);
        Due.is("nothing of the fault's text stays", x.read(), 1);
        figures("nothing of it", x, 50, 0, 0, 1, 0, 0);
        type(x, A + BILL + "x");
        x.read();
        type(x, A);
        x.read();
        counts("nor of its bills", x, 0, 0, 0, 10);
    }
}
