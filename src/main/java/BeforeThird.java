import java.util.Arrays;

/** An account by days: what is drawn when, what is truly there, and what may still be spent. */
public final class BeforeThird {
    public static final int NONE = -1, BAD = -2, NO = -3, FULL = -4;

    private static final int BAD_OF = -10000, BAD_FAR = -100000, BAD_TWO = -10, NOT_SO_MANY = -5;
    private static final int ACCOUNT = 0, JAR = 1, CHARGES = 2, DAY = 3, MONTH = 4, SPENDING = 5;
    private static final int FIGURES = 6;
    private static final int KINDS = 6, PAY = 5;
    private static final int BILLS = 7, NOTES = 6, UNDOS = 8, BYTES = 150;
    private static final int MONTH_DAYS = 28, LAST_MONTH = 999, FAR_DAYS = 99;
    private static final int MOST_SPENDING = 30, MOST_POUNDS = 99, MOST_ACCOUNT = 999;
    private static final int EXTRA = 4;

    private final Book book;
    private final Book imageZero;
    private final Book imageOne;
    private final boolean[] kept;
    private final Reader reader;
    private final Outlook outlook;
    private final Kinds kinds;
    private final int[] chargesByExtra;
    private long fractionAbove;
    private long fractionBelow;
    private int badCalls;
    private int noCalls;
    private int fullCalls;

    public BeforeThird() {
        book = new Book();
        imageZero = new Book();
        imageOne = new Book();
        kept = new boolean[2];
        reader = new Reader();
        outlook = new Outlook();
        kinds = outlook.kinds;
        chargesByExtra = new int[2 * EXTRA - 1];
        fractionBelow = 1;
    }

    // ---- an account

    public int account(int n) {
        if (!within(n, 0, MOST_ACCOUNT)) {
            return refuseBad(BAD);
        }
        int had = book.billCount;
        book.beginWith(n);
        return had;
    }

    public int bill(int kind, int day, int pounds) {
        if (!isBill(kind, day, pounds)) {
            return refuseBad(BAD);
        }
        if (book.billCount >= BILLS) {
            return refuseFull();
        }
        book.addBill(kind, day, pounds);
        return book.billCount - 1;
    }

    public int type(int c) {
        if (!within(c, 0, 127)) {
            return refuseBad(BAD);
        }
        if (reader.length >= BYTES) {
            return refuseFull();
        }
        reader.addByte(c);
        return reader.length;
    }

    public int clear() {
        int had = reader.length;
        reader.length = 0;
        return had;
    }

    public int read() {
        int answer = reader.itemsOrFault();
        if (answer >= 0) {
            book.copyFrom(reader.draft);
        }
        return answer;
    }

    // ---- days

    public int days(int n) {
        if (!within(n, 1, FAR_DAYS)) {
            return refuseBad(BAD);
        }
        book.keepPast();
        int before = book.figures[CHARGES];
        for (int i = 0; i < n; i++) {
            passDay();
        }
        return book.figures[CHARGES] - before;
    }

    public int spend(int n) {
        if (!within(n, 0, MOST_SPENDING)) {
            return refuseBad(BAD);
        }
        book.keepPast();
        int was = book.figures[SPENDING];
        book.figures[SPENDING] = n;
        return was;
    }

    public int jar(int n) {
        if (!within(n, -MOST_POUNDS, MOST_POUNDS)) {
            return refuseBad(BAD);
        }
        boolean tooManyOut = book.figures[JAR] + n < 0;
        // Pounds that come back never put the account below 0, though it may stay there.
        boolean tooManyIn = n > 0 && book.figures[ACCOUNT] - n < 0;
        if (tooManyOut || tooManyIn) {
            return refuseNo();
        }
        book.keepPast();
        book.figures[ACCOUNT] -= n;
        book.figures[JAR] += n;
        return book.figures[JAR];
    }

    public int undo() {
        if (book.pastCount <= 0) {
            return refuseNo();
        }
        book.stepBack();
        return book.figures[DAY];
    }

    public int of(int b, int what) {
        if (!isBillNumber(b) || !within(what, 0, 4)) {
            return refuseBad(BAD_OF);
        }
        Plain kind = kinds.numbered(book.kindAt(b));
        switch (what) {
            case 0:
                return book.kindAt(b);
            case 1:
                return book.dayAt(b);
            case 2:
                return book.poundsAt(b);
            case 3:
                return kind.drawnOn(book.dayAt(b));
            default:
                return kind.poundsIn(book.figures[MONTH], book.poundsAt(b));
        }
    }

    public int now(int what) {
        if (!within(what, 0, FIGURES - 1)) {
            return refuseBad(BAD_FAR);
        }
        return book.figures[what];
    }

    // ---- what is there

    public int truly() {
        int left = book.figures[ACCOUNT];
        for (int b = 0; b < book.billCount; b++) {
            Plain kind = kinds.numbered(book.kindAt(b));
            if (book.kindAt(b) != PAY && kind.drawnOn(book.dayAt(b)) >= book.figures[DAY]) {
                left -= kind.poundsIn(book.figures[MONTH], book.poundsAt(b));
            }
        }
        return left;
    }

    public int then(int m, int what) {
        if (!within(m, 0, FAR_DAYS) || !within(what, 0, 1)) {
            return refuseBad(BAD_FAR);
        }
        foresee(m);
        return what == 0 ? outlook.left : outlook.charges;
    }

    public int low(int m, int what) {
        if (!within(m, 1, FAR_DAYS) || !within(what, 0, 1)) {
            return refuseBad(BAD_FAR);
        }
        foresee(m);
        return what == 0 ? outlook.least : outlook.leastIn;
    }

    public int below() {
        foresee(FAR_DAYS);
        return outlook.belowIn;
    }

    public int most(int m) {
        if (!within(m, 1, FAR_DAYS)) {
            return refuseBad(BAD);
        }
        outlook.lay(book, m);
        int spending = outlook.mostSpending(book.figures[ACCOUNT]);
        return spending < 0 ? NONE : spending;
    }

    public int need(int m) {
        if (!within(m, 1, FAR_DAYS)) {
            return refuseBad(BAD);
        }
        outlook.lay(book, m);
        int more = outlook.leastMore(book.figures[ACCOUNT], book.figures[SPENDING]);
        return more > MOST_ACCOUNT ? NONE : more;
    }

    // ---- bills

    public int move() {
        outlook.lay(book, MONTH_DAYS);
        int fewest = chargesAsLaid();
        int best = NONE;
        for (int b = 0; b < book.billCount; b++) {
            outlook.put(book, b, book.dayAt(b), -1);
            for (int day = 1; day <= MONTH_DAYS; day++) {
                outlook.put(book, b, day, 1);
                int charges = chargesAsLaid();
                if (charges < fewest) {
                    fewest = charges;
                    best = 100 * b + day;
                }
                outlook.put(book, b, day, -1);
            }
            outlook.put(book, b, book.dayAt(b), 1);
        }
        return best;
    }

    public int monthly(int b) {
        if (!isBillNumber(b)) {
            return refuseBad(BAD_FAR);
        }
        Plain kind = kinds.numbered(book.kindAt(b));
        Plain plain = kinds.numbered(0);
        int pounds = book.poundsAt(b);
        int more = 0;
        for (int i = 0; i < 12; i++) {
            int month = book.figures[MONTH] + i;
            more += kind.poundsIn(month, pounds) - plain.poundsIn(month, pounds);
        }
        return more;
    }

    public int dear() {
        outlook.lay(book, MONTH_DAYS);
        int best = NONE;
        int fewest = 0;
        for (int b = 0; b < book.billCount; b++) {
            outlook.put(book, b, book.dayAt(b), -1);
            int charges = chargesAsLaid();
            if (best == NONE || charges < fewest) {
                fewest = charges;
                best = b;
            }
            outlook.put(book, b, book.dayAt(b), 1);
        }
        return best;
    }

    public int note(int b, int d, int e, int m, int q) {
        boolean daysAsTold = within(d, 1, MONTH_DAYS) && within(e, 1, MONTH_DAYS);
        if (!isBillNumber(b) || !daysAsTold || !within(m, 0, 40) || !within(q, -999, 999)) {
            return refuseBad(BAD);
        }
        if (book.noteCount >= NOTES) {
            return refuseFull();
        }
        book.addNote(b, d, e, m, q);
        return book.noteCount;
    }

    public int forget() {
        int had = book.noteCount;
        book.noteCount = 0;
        return had;
    }

    public int is(int b) {
        return isBillNumber(b) ? kindsThatFit(b) : refuseBad(BAD);
    }

    public int look(int b) {
        if (!isBillNumber(b)) {
            return refuseBad(BAD);
        }
        int bits = kindsThatFit(b);
        if (bits == 0) {
            return NONE;
        }
        int best = 0;
        int fewest = KINDS + 1;
        for (int month = 0; month <= 12; month++) {
            int alike = mostAlike(bits, b, month);
            if (alike < fewest) {
                fewest = alike;
                best = month;
            }
        }
        return best;
    }

    public int two(int m, int k) {
        if (!within(m, 1, MONTH_DAYS) || k < NONE) {
            return refuseBad(BAD_TWO);
        }
        layChargesByExtra(m);
        int found = 0;
        for (int pair = 0; pair < EXTRA * EXTRA; pair++) {
            int i = pair / EXTRA;
            int j = pair % EXTRA;
            if (isBestAgainst(i, j) && isBestAgainst(j, i)) {
                if (found == k) {
                    return pair;
                }
                found++;
            }
        }
        return k == NONE ? found : NOT_SO_MANY;
    }

    public int boiler(int b, int m, int c) {
        if (!within(b, 0, 999) || !within(m, 0, FAR_DAYS) || !within(c, 0, 10)) {
            return refuseBad(BAD);
        }
        foresee(m);
        int whole = outlook.charges;
        outlook.run(book.figures[ACCOUNT] - b, book.figures[SPENDING]);
        int burst = outlook.charges;
        setTenths(c * burst + (10 - c) * whole);
        return 1;
    }

    public int years(int seed, int n) {
        if (!within(seed, 0, 999999) || !within(n, 0, 60)) {
            return refuseBad(BAD_FAR);
        }
        outlook.lay(book, n);
        long x = seed;
        for (int i = 0; i < n; i++) {
            x = (x * 1103515245L + 12345L) % 2147483648L;
            outlook.drawMore(i, (int) (x / 65536L % 31L));
        }
        outlook.run(book.figures[ACCOUNT], 0);
        return outlook.left;
    }

    // ---- what there is

    public long part(int what) {
        if (!within(what, 0, 1)) {
            return refuseBad(BAD);
        }
        return what == 0 ? fractionAbove : fractionBelow;
    }

    public int image(int i) {
        if (!within(i, 0, 1)) {
            return refuseBad(BAD);
        }
        imageAt(i).copyFrom(book);
        kept[i] = true;
        return 1;
    }

    public int from(int i) {
        if (!within(i, 0, 1)) {
            return refuseBad(BAD);
        }
        if (!kept[i]) {
            return refuseNo();
        }
        book.copyFrom(imageAt(i));
        return 1;
    }

    public int status(int what) {
        switch (what) {
            case 0:
                return badCalls;
            case 1:
                return noCalls;
            case 2:
                return fullCalls;
            default:
                return refuseBad(-1);
        }
    }

    public int count(int what) {
        switch (what) {
            case 0:
                return book.billCount;
            case 1:
                return book.noteCount;
            case 2:
                return book.pastCount;
            case 3:
                return reader.length;
            default:
                return refuseBad(BAD);
        }
    }

    public long digest() {
        long h = 1373;
        h = 31 * h + book.billCount;
        h = 31 * h + book.noteCount;
        h = 31 * h + book.pastCount;
        h = 31 * h + reader.length;
        h = digestOf(h, book.figures, FIGURES);
        h = digestOf(h, book.bills, book.billCount * Book.BILL_WIDTH);
        h = digestOf(h, book.notes, book.noteCount * Book.NOTE_WIDTH);
        h = 31 * h + fractionAbove;
        return 31 * h + fractionBelow;
    }

    private static long digestOf(long start, int[] row, int length) {
        long h = start;
        for (int i = 0; i < length && i < row.length; i++) {
            h = 31 * h + row[i];
        }
        return h;
    }

    private static boolean within(int n, int least, int most) {
        return n >= least && n <= most;
    }

    private static boolean isBill(int kind, int day, int pounds) {
        return within(kind, 0, KINDS - 1) && within(day, 1, MONTH_DAYS) && within(pounds, 1, MOST_POUNDS);
    }

    private boolean isBillNumber(int b) {
        return b >= 0 && b < book.billCount;
    }

    private int refuseBad(int answer) {
        badCalls++;
        return answer;
    }

    private int refuseNo() {
        noCalls++;
        return NO;
    }

    private int refuseFull() {
        fullCalls++;
        return FULL;
    }

    private Book imageAt(int i) {
        return i == 0 ? imageZero : imageOne;
    }

    private void passDay() {
        int[] figures = book.figures;
        figures[ACCOUNT] -= drawnToday() + figures[SPENDING];
        if (figures[ACCOUNT] < 0) {
            figures[ACCOUNT]--;
            figures[CHARGES]++;
        }
        if (figures[DAY] < MONTH_DAYS) {
            figures[DAY]++;
        } else if (figures[MONTH] < LAST_MONTH) {
            figures[DAY] = 1;
            figures[MONTH]++;
        }
    }

    private int drawnToday() {
        int drawn = 0;
        for (int b = 0; b < book.billCount; b++) {
            Plain kind = kinds.numbered(book.kindAt(b));
            if (kind.drawnOn(book.dayAt(b)) == book.figures[DAY]) {
                drawn += kind.poundsIn(book.figures[MONTH], book.poundsAt(b));
            }
        }
        return drawn;
    }

    private void foresee(int m) {
        outlook.lay(book, m);
        outlook.run(book.figures[ACCOUNT], book.figures[SPENDING]);
    }

    private int chargesAsLaid() {
        outlook.run(book.figures[ACCOUNT], book.figures[SPENDING]);
        return outlook.charges;
    }

    private int kindsThatFit(int b) {
        int bits = 0;
        for (int kind = 0; kind < KINDS; kind++) {
            if (fitsNotes(kinds.numbered(kind), b)) {
                bits |= 1 << kind;
            }
        }
        return bits;
    }

    private boolean fitsNotes(Plain kind, int b) {
        for (int i = 0; i < book.noteCount; i++) {
            if (book.notePart(i, 0) == b && !fitsNote(kind, i, book.poundsAt(b))) {
                return false;
            }
        }
        return true;
    }

    private boolean fitsNote(Plain kind, int i, int pounds) {
        return kind.drawnOn(book.notePart(i, 1)) == book.notePart(i, 2)
            && kind.poundsIn(book.notePart(i, 3), pounds) == book.notePart(i, 4);
    }

    private int mostAlike(int bits, int b, int month) {
        int most = 0;
        for (int kind = 0; kind < KINDS; kind++) {
            if (hasBit(bits, kind)) {
                most = Math.max(most, alikeTo(kinds.numbered(kind), bits, b, month));
            }
        }
        return most;
    }

    private int alikeTo(Plain kind, int bits, int b, int month) {
        int told = book.dayAt(b);
        int pounds = book.poundsAt(b);
        int alike = 0;
        for (int i = 0; i < KINDS; i++) {
            Plain other = kinds.numbered(i);
            if (hasBit(bits, i)
                && other.drawnOn(told) == kind.drawnOn(told)
                && other.poundsIn(month, pounds) == kind.poundsIn(month, pounds)) {
                alike++;
            }
        }
        return alike;
    }

    private static boolean hasBit(int bits, int i) {
        return (bits >> i & 1) == 1;
    }

    private void layChargesByExtra(int m) {
        outlook.lay(book, m);
        for (int extra = 0; extra < chargesByExtra.length; extra++) {
            outlook.run(book.figures[ACCOUNT], book.figures[SPENDING] + extra);
            chargesByExtra[extra] = outlook.charges;
        }
    }

    private boolean isBestAgainst(int mine, int theirs) {
        int gain = gainOf(mine, theirs);
        for (int other = 0; other < EXTRA; other++) {
            if (gainOf(other, theirs) > gain) {
                return false;
            }
        }
        return true;
    }

    private int gainOf(int mine, int theirs) {
        int both = mine + theirs;
        return within(both, 0, chargesByExtra.length - 1) ? 3 * mine - chargesByExtra[both] : 0;
    }

    private void setTenths(int tenths) {
        int common = 1;
        for (int divisor = 2; divisor <= 10; divisor++) {
            if (10 % divisor == 0 && tenths % divisor == 0) {
                common = divisor;
            }
        }
        fractionAbove = tenths / common;
        fractionBelow = 10 / common;
    }

    /** Kind 0; the other kinds stand under it, as the document tells them. */
    private static class Plain {
        int drawnOn(int told) {
            return told;
        }

        int poundsIn(int month, int pounds) {
            return pounds;
        }
    }

    private static class Moved extends Plain {
        int drawnOn(int told) {
            int plain = super.drawnOn(told);
            if (plain % 7 != 0) {
                return plain;
            }
            return plain == MONTH_DAYS ? plain - 1 : plain + 1;
        }
    }

    private static class Quarter extends Plain {
        int poundsIn(int month, int pounds) {
            return month % 3 == 0 ? super.poundsIn(month, pounds) : 0;
        }
    }

    private static final class Card extends Plain {
        int drawnOn(int told) {
            int later = super.drawnOn(told) + 14;
            return later > MONTH_DAYS ? later - MONTH_DAYS : later;
        }
    }

    private static final class Yearly extends Quarter {
        int poundsIn(int month, int pounds) {
            return month % 12 == 0 ? 10 * super.poundsIn(month, pounds) : 0;
        }
    }

    private static final class Pay extends Moved {
        int poundsIn(int month, int pounds) {
            return -super.poundsIn(month, pounds);
        }
    }

    /** The kinds by their numbers. */
    private static final class Kinds {
        private final Plain plain = new Plain();
        private final Moved moved = new Moved();
        private final Quarter quarter = new Quarter();
        private final Card card = new Card();
        private final Yearly yearly = new Yearly();
        private final Pay pay = new Pay();

        Plain numbered(int kind) {
            switch (kind) {
                case 1:
                    return moved;
                case 2:
                    return quarter;
                case 3:
                    return card;
                case 4:
                    return yearly;
                case 5:
                    return pay;
                default:
                    return plain;
            }
        }
    }

    /** All that an image keeps: the figures, the bills, the notes and what may be undone. */
    private static final class Book {
        private static final int BILL_WIDTH = 3, NOTE_WIDTH = 5;

        private final int[] figures = new int[FIGURES];
        private final int[] bills = new int[BILLS * BILL_WIDTH];
        private final int[] notes = new int[NOTES * NOTE_WIDTH];
        private final int[] past = new int[UNDOS * FIGURES];
        private int billCount;
        private int noteCount;
        private int pastCount;

        Book() {
            figures[DAY] = 1;
        }

        void beginWith(int pounds) {
            Arrays.fill(figures, 0);
            figures[ACCOUNT] = pounds;
            figures[DAY] = 1;
            billCount = 0;
            noteCount = 0;
            pastCount = 0;
        }

        void addBill(int kind, int told, int pounds) {
            if (billCount >= BILLS) {
                return;
            }
            int at = billCount * BILL_WIDTH;
            bills[at] = kind;
            bills[at + 1] = told;
            bills[at + 2] = pounds;
            billCount++;
            pastCount = 0;
        }

        int kindAt(int b) {
            return billPart(b, 0);
        }

        int dayAt(int b) {
            return billPart(b, 1);
        }

        int poundsAt(int b) {
            return billPart(b, 2);
        }

        private int billPart(int b, int part) {
            return b >= 0 && b < BILLS ? bills[b * BILL_WIDTH + part] : 0;
        }

        void addNote(int b, int d, int e, int m, int q) {
            if (noteCount >= NOTES) {
                return;
            }
            int at = noteCount * NOTE_WIDTH;
            notes[at] = b;
            notes[at + 1] = d;
            notes[at + 2] = e;
            notes[at + 3] = m;
            notes[at + 4] = q;
            noteCount++;
        }

        int notePart(int i, int part) {
            return i >= 0 && i < NOTES ? notes[i * NOTE_WIDTH + part] : 0;
        }

        void keepPast() {
            if (pastCount >= UNDOS) {
                System.arraycopy(past, FIGURES, past, 0, (UNDOS - 1) * FIGURES);
                pastCount = UNDOS - 1;
            }
            System.arraycopy(figures, 0, past, pastCount * FIGURES, FIGURES);
            pastCount++;
        }

        void stepBack() {
            if (pastCount <= 0) {
                return;
            }
            pastCount--;
            System.arraycopy(past, pastCount * FIGURES, figures, 0, FIGURES);
        }

        void copyFrom(Book other) {
            System.arraycopy(other.figures, 0, figures, 0, FIGURES);
            System.arraycopy(other.bills, 0, bills, 0, BILLS * BILL_WIDTH);
            System.arraycopy(other.notes, 0, notes, 0, NOTES * NOTE_WIDTH);
            System.arraycopy(other.past, 0, past, 0, UNDOS * FIGURES);
            billCount = other.billCount;
            noteCount = other.noteCount;
            pastCount = other.pastCount;
        }
    }

    /** Days ahead: what the bills draw on each of them, and how the account goes through them. */
    private static final class Outlook {
        private final Kinds kinds = new Kinds();
        private final int[] draws = new int[FAR_DAYS];
        private int length;
        private int left;
        private int charges;
        private int least;
        private int leastIn;
        private int belowIn;

        void lay(Book book, int m) {
            length = Math.max(0, Math.min(m, FAR_DAYS));
            Arrays.fill(draws, 0);
            for (int b = 0; b < book.billCount; b++) {
                put(book, b, book.dayAt(b), 1);
            }
        }

        /** Adds bill b, as if it were told for another day, so many times to what is laid. */
        void put(Book book, int b, int told, int times) {
            Plain kind = kinds.numbered(book.kindAt(b));
            int wait = Math.floorMod(kind.drawnOn(told) - book.figures[DAY], MONTH_DAYS);
            int month = book.figures[MONTH];
            if (book.figures[DAY] + wait > MONTH_DAYS) {
                month++;
            }
            for (int i = wait; i < length; i += MONTH_DAYS) {
                draws[i] += times * kind.poundsIn(month, book.poundsAt(b));
                month++;
            }
        }

        void drawMore(int i, int pounds) {
            if (i >= 0 && i < length) {
                draws[i] += pounds;
            }
        }

        void run(int pounds, int spending) {
            left = pounds;
            charges = 0;
            least = pounds;
            leastIn = 0;
            belowIn = NONE;
            for (int i = 0; i < length; i++) {
                left -= draws[i] + spending;
                if (left < 0) {
                    left--;
                    charges++;
                    belowIn = belowIn == NONE ? i + 1 : belowIn;
                }
                if (i == 0 || left < least) {
                    least = left;
                    leastIn = i + 1;
                }
            }
        }

        /** An account that is never below 0 has no charges, so each day sets a bound of its own. */
        int mostSpending(int pounds) {
            int most = MOST_SPENDING;
            int rest = pounds;
            for (int i = 0; i < length; i++) {
                rest -= draws[i];
                most = Math.min(most, Math.floorDiv(rest, i + 1));
            }
            return most;
        }

        /** Without charges too: what would be there on the lowest day must be there at first. */
        int leastMore(int pounds, int spending) {
            int more = 0;
            int rest = pounds;
            for (int i = 0; i < length; i++) {
                rest -= draws[i] + spending;
                more = Math.max(more, -rest);
            }
            return more;
        }
    }

    /** The text; it is read into a draft, so that a fault leaves the account as it is. */
    private static final class Reader {
        private static final int END = 0, WORD = 1, NUMBER = 2, STOP = 3, OTHER = 4;

        private final byte[] text = new byte[BYTES];
        private final Book draft = new Book();
        private int length;
        private int start;
        private int next;
        private int sort;
        private int value;

        void addByte(int c) {
            if (length < BYTES) {
                text[length] = (byte) c;
                length++;
            }
        }

        int itemsOrFault() {
            next = 0;
            draft.beginWith(0);
            int items = 0;
            takeToken();
            while (items < BYTES && sort != END) {
                if (!takeItem(items == 0)) {
                    return -10 - start;
                }
                items++;
                takeToken();
            }
            return items == 0 ? -10 - start : items;
        }

        /** On false, start is the place of the token that can not stand there. */
        private boolean takeItem(boolean first) {
            if (spells("account")) {
                return first && takeAccount();
            }
            if (first) {
                return false;
            }
            if (spells("bill")) {
                return draft.billCount < BILLS && takeBill();
            }
            if (spells("spend")) {
                return takeFigure(SPENDING, MOST_SPENDING);
            }
            return spells("jar") && takeFigure(JAR, MOST_POUNDS);
        }

        private boolean takeAccount() {
            if (!takeNumber(0, 99)) {
                return false;
            }
            draft.figures[ACCOUNT] = 10 * value;
            return takeStop();
        }

        private boolean takeBill() {
            if (!takeNumber(0, KINDS - 1)) {
                return false;
            }
            int kind = value;
            if (!takeNumber(1, MONTH_DAYS)) {
                return false;
            }
            int told = value;
            if (!takeNumber(1, MOST_POUNDS)) {
                return false;
            }
            draft.addBill(kind, told, value);
            return takeStop();
        }

        private boolean takeFigure(int which, int most) {
            if (!within(which, 0, FIGURES - 1) || !takeNumber(0, most)) {
                return false;
            }
            draft.figures[which] = value;
            return takeStop();
        }

        private boolean takeNumber(int least, int most) {
            takeToken();
            return sort == NUMBER && within(value, least, most);
        }

        private boolean takeStop() {
            takeToken();
            return sort == STOP;
        }

        private boolean spells(String word) {
            if (sort != WORD || next - start != word.length()) {
                return false;
            }
            for (int i = 0; i < word.length(); i++) {
                if (byteAt(start + i) != word.charAt(i)) {
                    return false;
                }
            }
            return true;
        }

        private void takeToken() {
            skipRun(' ', ' ');
            start = next;
            int c = byteAt(start);
            if (c == NONE) {
                sort = END;
            } else if (within(c, 'a', 'z')) {
                skipRun('a', 'z');
                sort = WORD;
            } else if (within(c, '0', '9')) {
                skipRun('0', '9');
                sort = next - start > 2 ? OTHER : NUMBER;
                value = next - start == 1 ? c - '0' : 10 * (c - '0') + byteAt(start + 1) - '0';
            } else {
                next++;
                sort = c == ';' ? STOP : OTHER;
            }
        }

        private void skipRun(int least, int most) {
            while (next < length && next < BYTES && text[next] >= least && text[next] <= most) {
                next++;
            }
        }

        private int byteAt(int place) {
            return place >= 0 && place < length && place < BYTES ? text[place] : NONE;
        }
    }
}
