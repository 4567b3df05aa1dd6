/**
 * A parish's map of fields that owe a tenth. Acts may be told late and out of turn, so the map keeps
 * only the entries, in the order in which they were told, and does their acts anew for each question.
 */
public final class TitheMap {
    /** There is none. */
    public static final int NONE = -1;

    private static final int ENTRIES = 80;
    private static final int FIELDS = 60;
    private static final int CORNS = 3;
    private static final int KINDS = 3;
    private static final int OWNERS = 10;
    private static final int LOOKS = 7;

    private static final int FIRST_YEAR = 1;
    private static final int FIRST_ACT_YEAR = 8;
    private static final int LAST_YEAR = 200;
    private static final int YEARS_OF_PRICES = 7;

    private static final int MOST_AREA = 10000;
    private static final int MOST_PRICE = 1000;
    private static final int MOST_SETTLED = 1000000;
    private static final int YEARS_OF_COST = 25;

    private static final int PRICE = 0;
    private static final int MAKE = 1;
    private static final int PART = 2;
    private static final int JOIN = 3;
    private static final int SELL = 4;
    private static final int SETTLE = 5;
    private static final int BUY = 6;

    private final Book book;
    private final Land land;
    private final Land otherLand;

    public TitheMap() {
        book = new Book();
        land = new Land(book);
        otherLand = new Land(book);
    }

    public int price(int year, int corn, int pence) {
        if (book.isFull() || !isWithin(year, FIRST_YEAR, LAST_YEAR)
                || !isWithin(corn, 0, CORNS - 1) || !isWithin(pence, 1, MOST_PRICE)) {
            return NONE;
        }
        book.draft(PRICE, year);
        book.put(book.first, corn);
        book.put(book.amount, pence);
        return book.keep(0);
    }

    public int make(int year, int area, int kind, int owner) {
        if (!isActPossible(year, 1) || !isWithin(area, 1, MOST_AREA)
                || !isWithin(kind, 0, KINDS - 1) || !isOwner(owner)) {
            return NONE;
        }
        book.draft(MAKE, year);
        book.put(book.amount, area);
        book.put(book.kind, kind);
        book.put(book.owner, owner);
        return firstMadeBy(takeDraft(1));
    }

    public int part(int year, int f, int area) {
        if (!isActPossible(year, 2) || !isField(f) || area < 1) {
            return NONE;
        }
        book.draft(PART, year);
        book.put(book.first, f);
        book.put(book.amount, area);
        return firstMadeBy(takeDraft(2));
    }

    public int join(int year, int f, int g) {
        if (!isActPossible(year, 1) || !isField(f) || !isField(g)) {
            return NONE;
        }
        book.draft(JOIN, year);
        book.put(book.first, f);
        book.put(book.second, g);
        return firstMadeBy(takeDraft(1));
    }

    public int sell(int year, int f, int owner) {
        if (!isActPossible(year, 0) || !isField(f) || !isOwner(owner)) {
            return NONE;
        }
        book.draft(SELL, year);
        book.put(book.first, f);
        book.put(book.owner, owner);
        return takeDraft(0);
    }

    public int settle(int year, int pence) {
        if (!isActPossible(year, 0) || !isWithin(pence, 1, MOST_SETTLED)) {
            return NONE;
        }
        book.draft(SETTLE, year);
        book.put(book.amount, pence);
        return takeDraft(0);
    }

    public int buy(int year, int f) {
        if (!isActPossible(year, 0) || !isField(f)) {
            return NONE;
        }
        book.draft(BUY, year);
        book.put(book.first, f);
        return takeDraft(0);
    }

    public int average(int k, int y, int corn) {
        if (!isKnowing(k) || !isWithin(y, FIRST_YEAR, LAST_YEAR) || !isWithin(corn, 0, CORNS - 1)) {
            return NONE;
        }
        return book.mean(k, y, corn);
    }

    public int look(int k, int y, int f, int what) {
        if (!isKnowing(k) || !isWithin(y, 0, LAST_YEAR) || !isField(f)) {
            return NONE;
        }
        land.show(k, y, NONE);
        return land.tell(f, what);
    }

    public long money(int k, int y, int f) {
        if (!isKnowing(k) || !isWithin(y, FIRST_YEAR, LAST_YEAR) || !isField(f)) {
            return NONE;
        }
        land.show(k, y, NONE);
        return land.worth(k, y, f);
    }

    public long owed(int k, int y, int owner) {
        if (!isKnowing(k) || !isWithin(y, FIRST_YEAR, LAST_YEAR) || owner != NONE && !isOwner(owner)) {
            return NONE;
        }
        land.show(k, y, NONE);
        return land.worthOfAll(k, y, owner);
    }

    public long parish(int k, int y, int what) {
        if (!isKnowing(k) || !isWithin(y, 0, LAST_YEAR)) {
            return NONE;
        }
        land.show(k, y, NONE);
        switch (what) {
            case 0:
                return land.howMany();
            case 1:
                return land.sumOf(0);
            case 2:
            case 3:
            case 4:
                return land.sumOf(what + 1);
            case 5:
                return land.sumOf(6);
            case 6:
                return land.settled ? 1 : 0;
            default:
                return NONE;
        }
    }

    public long cost(int k, int e) {
        if (!isKnowing(k) || !isWithin(e, 0, k - 1) || at(book.act, e) != BUY) {
            return NONE;
        }
        int year = at(book.year, e);
        land.show(k, year, e);
        long worth = land.worth(k, year, at(book.first, e));
        return worth == NONE ? NONE : YEARS_OF_COST * worth;
    }

    public int field(int f, int what) {
        if (!isField(f)) {
            return NONE;
        }
        int maker = at(book.maker, f);
        int ender = at(book.ender, f);
        switch (what) {
            case 0:
                return at(book.year, maker);
            case 1:
                return at(book.year, ender);
            case 2:
                return maker;
            case 3:
                return ender;
            case 4:
                return at(book.first, maker);
            case 5:
                return at(book.second, maker);
            default:
                return NONE;
        }
    }

    public int differ(int k, int l, int y, int i) {
        if (!isKnowing(k) || !isKnowing(l) || !isWithin(y, 0, LAST_YEAR)) {
            return NONE;
        }
        land.show(k, y, NONE);
        otherLand.show(l, y, NONE);
        int found = 0;
        for (int f = 0; f < FIELDS; f++) {
            if (land.isOtherwise(otherLand, f)) {
                if (found == i) {
                    return f;
                }
                found++;
            }
        }
        return NONE;
    }

    public int entry(int e, int what) {
        if (!isWithin(e, 0, book.size - 1)) {
            return NONE;
        }
        switch (what) {
            case 0:
                return at(book.act, e);
            case 1:
                return at(book.year, e);
            case 2:
                return at(book.first, e);
            case 3:
                return firstMadeBy(e);
            default:
                return NONE;
        }
    }

    public int count(int what) {
        switch (what) {
            case 0:
                return book.size;
            case 1:
                return book.fields;
            default:
                return NONE;
        }
    }

    private static boolean isWithin(int value, int least, int most) {
        return value >= least && value <= most;
    }

    private static boolean isOwner(int owner) {
        return isWithin(owner, 0, OWNERS - 1);
    }

    /** What stands at a place of a row; NONE beside it, so that a NONE that was kept can be asked with too. */
    private static int at(int[] row, int place) {
        return place < 0 || place >= row.length ? NONE : row[place];
    }

    private boolean isField(int f) {
        return isWithin(f, 0, book.fields - 1);
    }

    private boolean isKnowing(int k) {
        return isWithin(k, 0, book.size);
    }

    private boolean isActPossible(int year, int newFields) {
        return !book.isFull() && isWithin(year, FIRST_ACT_YEAR, LAST_YEAR) && book.fields + newFields <= FIELDS;
    }

    private int firstMadeBy(int e) {
        return at(book.made, e);
    }

    /** The drafted act's number if with it all acts that are known fit; else NONE, and the draft is gone. */
    private int takeDraft(int newFields) {
        if (newFields > 0) {
            book.put(book.made, book.fields);
        }
        book.fileDraft();
        if (!land.show(book.size + 1, LAST_YEAR, NONE)) {
            book.withdrawDraft();
            return NONE;
        }
        return book.keep(newFields);
    }

    /** The entries as they were told; the row behind the last one is the draft of the next. */
    private static final class Book {
        final int[] act = new int[ENTRIES];
        final int[] year = new int[ENTRIES];
        /** The field that is named first, or a price's corn. */
        final int[] first = new int[ENTRIES];
        /** The other field of a join. */
        final int[] second = new int[ENTRIES];
        /** An area or pence. */
        final int[] amount = new int[ENTRIES];
        final int[] kind = new int[ENTRIES];
        final int[] owner = new int[ENTRIES];
        /** The (lowest) field that the entry made. */
        final int[] made = new int[ENTRIES];
        /** The acts' entries in the order in which they are done. */
        final int[] order = new int[ENTRIES];
        final int[] maker = new int[FIELDS];
        final int[] ender = new int[FIELDS];
        int acts;
        int size;
        int fields;

        boolean isFull() {
            return size >= ENTRIES;
        }

        void put(int[] row, int value) {
            if (size >= 0 && size < row.length) {
                row[size] = value;
            }
        }

        void draft(int newAct, int newYear) {
            put(act, newAct);
            put(year, newYear);
            put(first, NONE);
            put(second, NONE);
            put(amount, NONE);
            put(kind, NONE);
            put(owner, NONE);
            put(made, NONE);
        }

        /** Behind all acts of its year, for it was told last. */
        void fileDraft() {
            int place = acts;
            if (place < 0 || place >= ENTRIES) {
                return;
            }
            int draftYear = at(year, size);
            for (; place > 0 && at(year, order[place - 1]) > draftYear; place--) {
                order[place] = order[place - 1];
            }
            order[place] = size;
            acts++;
        }

        void withdrawDraft() {
            int kept = 0;
            for (int i = 0; i < acts && i < ENTRIES; i++) {
                if (order[i] != size) {
                    order[kept] = order[i];
                    kept++;
                }
            }
            acts = kept;
        }

        /** Makes the draft an entry, with so many new fields; answers its number. */
        int keep(int newFields) {
            int e = size;
            for (int i = 0; i < newFields && fields < FIELDS; i++) {
                maker[fields] = e;
                ender[fields] = NONE;
                fields++;
            }
            int doneAct = at(act, e);
            if (doneAct == PART || doneAct == JOIN) {
                end(at(first, e), e);
                end(at(second, e), e);
            }
            size++;
            return e;
        }

        private void end(int f, int e) {
            if (f >= 0 && f < FIELDS) {
                ender[f] = e;
            }
        }

        /** The average of a corn for year y by the first k entries, NONE if there is none. */
        int mean(int k, int y, int corn) {
            int sum = 0;
            int years = 0;
            int seen = 0;
            // From the last one back, so that the first found for a year is the one that counts.
            for (int e = Math.min(k, ENTRIES) - 1; e >= 0; e--) {
                int yearsAgo = y - year[e];
                if (act[e] == PRICE && first[e] == corn && yearsAgo >= 1 && yearsAgo <= YEARS_OF_PRICES
                        && (seen >> yearsAgo & 1) == 0) {
                    seen |= 1 << yearsAgo;
                    sum += amount[e];
                    years++;
                }
            }
            return years == 0 ? NONE : (2 * sum + years) / (2 * years);
        }
    }

    /** The fields as they are in some year by some knowing; its rows are used again for each question. */
    private static final class Land {
        private final Book book;
        private final boolean[] there = new boolean[FIELDS];
        private final int[] area = new int[FIELDS];
        private final int[] kind = new int[FIELDS];
        private final int[] owner = new int[FIELDS];
        private final int[][] charge = new int[CORNS][FIELDS];
        private final boolean[] bought = new boolean[FIELDS];
        private final long[] weight = new long[FIELDS];
        private final int[] share = new int[FIELDS];
        private final long[] remainder = new long[FIELDS];
        private final int[] means = new int[CORNS];
        boolean settled;

        Land(Book book) {
            this.book = book;
        }

        /**
         * Does the acts of knowing k up to year y, from no fields on, but those from entry until on (NONE: all);
         * false if one does not fit.
         */
        boolean show(int k, int y, int until) {
            for (int f = 0; f < FIELDS; f++) {
                there[f] = false;
            }
            settled = false;
            for (int i = 0; i < book.acts; i++) {
                int e = at(book.order, i);
                if (e == until || at(book.year, e) > y) {
                    return true;
                }
                if (e < k && !tryAct(e, k)) {
                    return false;
                }
            }
            return true;
        }

        /** Does one act; false, and nothing is done, if it does not fit. So do the six below, one for each act. */
        private boolean tryAct(int e, int k) {
            int f = at(book.first, e);
            int made = at(book.made, e);
            int amount = at(book.amount, e);
            switch (at(book.act, e)) {
                case MAKE:
                    return tryMake(made, amount, at(book.kind, e), at(book.owner, e));
                case PART:
                    return tryPart(f, amount, made, made + 1);
                case JOIN:
                    return tryJoin(f, at(book.second, e), made);
                case SELL:
                    return trySell(f, at(book.owner, e));
                case SETTLE:
                    return trySettle(amount, k, at(book.year, e));
                case BUY:
                    return tryBuy(f);
                default:
                    return false;
            }
        }

        private static boolean isNumber(int f) {
            return f >= 0 && f < FIELDS;
        }

        boolean isThere(int f) {
            return f >= 0 && f < FIELDS && there[f];
        }

        private boolean tryMake(int f, int newArea, int newKind, int newOwner) {
            if (!isNumber(f)) {
                return false;
            }
            there[f] = true;
            area[f] = newArea;
            kind[f] = newKind;
            owner[f] = newOwner;
            bought[f] = false;
            clearCharge(f);
            return true;
        }

        private void clearCharge(int f) {
            for (int corn = 0; corn < CORNS && f >= 0 && f < FIELDS; corn++) {
                charge[corn][f] = 0;
            }
        }

        private boolean tryPart(int f, int told, int g, int h) {
            if (!isThere(f) || !isNumber(g) || !isNumber(h) || told < 1 || area[f] <= told) {
                return false;
            }
            int old = area[f];
            tryMake(g, told, kind[f], owner[f]);
            tryMake(h, old - told, kind[f], owner[f]);
            bought[g] = bought[f];
            bought[h] = bought[f];
            for (int corn = 0; corn < CORNS; corn++) {
                int whole = charge[corn][f];
                charge[corn][g] = (int) ((long) whole * told / old);
                charge[corn][h] = whole - charge[corn][g];
            }
            there[f] = false;
            return true;
        }

        private boolean tryJoin(int f, int g, int h) {
            if (f == g || !isThere(f) || !isThere(g) || !isNumber(h)
                    || kind[f] != kind[g] || owner[f] != owner[g] || bought[f] != bought[g]) {
                return false;
            }
            tryMake(h, area[f] + area[g], kind[f], owner[f]);
            bought[h] = bought[f];
            for (int corn = 0; corn < CORNS; corn++) {
                charge[corn][h] = charge[corn][f] + charge[corn][g];
            }
            there[f] = false;
            there[g] = false;
            return true;
        }

        private boolean trySell(int f, int newOwner) {
            if (!isThere(f) || owner[f] == newOwner) {
                return false;
            }
            owner[f] = newOwner;
            return true;
        }

        private boolean tryBuy(int f) {
            if (!settled || !isThere(f) || bought[f]) {
                return false;
            }
            bought[f] = true;
            clearCharge(f);
            return true;
        }

        private boolean trySettle(int pence, int k, int year) {
            long total = weighAll();
            if (settled || total <= 0 || !areMeansKnown(k, year)) {
                return false;
            }
            shareOut(pence, total);
            for (int f = 0; f < FIELDS; f++) {
                chargeShare(f);
            }
            settled = true;
            return true;
        }

        /** Puts each field's area times the weight of its kind (arable 3, meadow 2, wood 1) down; answers the sum. */
        private long weighAll() {
            long total = 0;
            for (int f = 0; f < FIELDS; f++) {
                weight[f] = there[f] ? (long) area[f] * (KINDS - kind[f]) : 0;
                total += weight[f];
            }
            return total;
        }

        private void shareOut(int pence, long total) {
            int left = pence;
            for (int f = 0; f < FIELDS && total > 0; f++) {
                long product = pence * weight[f];
                share[f] = (int) (product / total);
                remainder[f] = product % total;
                left -= share[f];
            }
            for (int i = 0; i < left && i < FIELDS; i++) {
                int f = greatestRemainder();
                share[f]++;
                remainder[f] = 0;
            }
        }

        /** The lowest of the fields with the greatest remainder. */
        private int greatestRemainder() {
            int best = 0;
            for (int f = 1; f < FIELDS; f++) {
                if (remainder[f] > remainder[best]) {
                    best = f;
                }
            }
            return best;
        }

        /** Turns a field's share into its charges, by the means that are known already. */
        private void chargeShare(int f) {
            if (!isThere(f)) {
                return;
            }
            int odd = share[f] % CORNS;
            for (int corn = 0; corn < CORNS; corn++) {
                long third = share[f] / CORNS + (corn < odd ? 1 : 0);
                long mean = means[corn];
                if (mean > 0) {
                    charge[corn][f] = (int) ((200 * third + mean) / (2 * mean));
                }
            }
        }

        /** Whether the averages of all corns are; they stand in means then. */
        private boolean areMeansKnown(int k, int y) {
            for (int corn = 0; corn < CORNS; corn++) {
                means[corn] = book.mean(k, y, corn);
                if (means[corn] == NONE) {
                    return false;
                }
            }
            return true;
        }

        /** The money of a field, by the averages for year y; NONE if it is not there or there is none. */
        long worth(int k, int y, int f) {
            return isThere(f) && areMeansKnown(k, y) ? worthByMeans(f) : NONE;
        }

        private long worthByMeans(int f) {
            long hundredths = 0;
            for (int corn = 0; corn < CORNS && isNumber(f); corn++) {
                hundredths += (long) charge[corn][f] * means[corn];
            }
            return (hundredths + 50) / 100;
        }

        long worthOfAll(int k, int y, int whose) {
            boolean known = areMeansKnown(k, y);
            long sum = 0;
            for (int f = 0; f < FIELDS; f++) {
                if (there[f] && (whose == NONE || owner[f] == whose)) {
                    if (!known) {
                        return NONE;
                    }
                    sum += worthByMeans(f);
                }
            }
            return sum;
        }

        int tell(int f, int what) {
            if (!isThere(f)) {
                return NONE;
            }
            switch (what) {
                case 0:
                    return area[f];
                case 1:
                    return kind[f];
                case 2:
                    return owner[f];
                case 3:
                case 4:
                case 5:
                    return charge[what - 3][f];
                case 6:
                    return bought[f] ? 1 : 0;
                default:
                    return NONE;
            }
        }

        int howMany() {
            int sum = 0;
            for (int f = 0; f < FIELDS; f++) {
                sum += there[f] ? 1 : 0;
            }
            return sum;
        }

        /** What all fields that are there tell of one thing, together. */
        long sumOf(int what) {
            long sum = 0;
            for (int f = 0; f < FIELDS; f++) {
                sum += there[f] ? tell(f, what) : 0;
            }
            return sum;
        }

        /** A field that is not there tells NONE, which none that is there does; so the looks alone tell all. */
        boolean isOtherwise(Land other, int f) {
            for (int what = 0; what < LOOKS; what++) {
                if (tell(f, what) != other.tell(f, what)) {
                    return true;
                }
            }
            return false;
        }
    }
}
