/** Promises 1 to 8, what is told: a test for each sentence of the document that names a boundary case. */
public final class EntryEdgesTest {
    private static final int NONE = Desk.NONE;

    public static void main(String[] args) {
        newObject();
        constant();
        refusedChangesNothing();
        wrongInSeveralWays();
        priceRanges();
        priceWhateverActsThereAre();
        makeRanges();
        makeNumbers();
        partRanges();
        partFits();
        partShares();
        joinRanges();
        joinFits();
        sellRanges();
        sellFits();
        settleRanges();
        settleFits();
        settleShares();
        settleWhoHasAShare();
        settleCharges();
        buyRanges();
        buyFits();
        orderOfActs();
        lateActsOnOneField();
        lateActsThatChangeAField();
        allEntriesAreActs();
        Desk.end();
    }

    /** Two arable fields of area 10, owner 1, in year 10 (entries 0, 1). */
    private static Desk twoFields() {
        return new Desk().told("make", 10, 10, 0, 1).told("make", 10, 10, 0, 1);
    }

    /** Prices (entries 0 to 2), fields 0 and 1 (entries 3, 4) in year 8, settled in year 10 (5): 150 pence each. */
    private static Desk settled() {
        return new Desk().prices(7, 1, 1, 1).told("make", 8, 10, 0, 1).told("make", 8, 10, 0, 1).told("settle", 10, 300);
    }

    private static Desk settled79() {
        return settled().filled(79);
    }

    private static Desk settled80() {
        return settled().filled(80);
    }

    /** As settled(), then field 0 bought in year 12 (entry 6), field 1 parted to 2 and 3 in year 13 (entry 7). */
    private static Desk lively() {
        return settled().told("buy", 12, 0).told("part", 13, 1, 4);
    }

    private static Desk unsettled() {
        return new Desk().prices(7, 1, 1, 1).told("make", 8, 10, 0, 1);
    }

    private static Desk unsettled79() {
        return unsettled().filled(79);
    }

    private static Desk unsettled80() {
        return unsettled().filled(80);
    }

    private static Desk fields58() {
        return new Desk().made(58);
    }

    private static Desk fields59() {
        return new Desk().made(59);
    }

    private static Desk fields60() {
        return new Desk().made(60);
    }

    /** 60 fields have been made, 20 of which have ended. */
    private static Desk fields60SomeEnded() {
        Desk x = new Desk().made(20);
        for (int f = 0; f < 20; f++) {
            x.told("part", 9, f, 1);
        }
        return x;
    }

    private static void newObject() {
        Desk.sentence(1, "No ENTRIES.");
        Desk x = new Desk().due(0, "count", 0).due(0, "count", 1).due(NONE, "entry", 0, 0).due(NONE, "field", 0, 0);
        for (int what = 0; what < 7; what++) {
            x.due(0, "parish", 0, 200, what).due(NONE, "parish", 1, 200, what).due(NONE, "look", 0, 200, 0, what);
        }
        for (int corn = 0; corn < 3; corn++) {
            x.due(NONE, "average", 0, 8, corn);
        }
        x.due(NONE, "money", 0, 8, 0).due(0, "owed", 0, 8, NONE).due(0, "owed", 0, 8, 0);
        x.due(NONE, "cost", 0, 0).due(NONE, "differ", 0, 0, 8, 0);
        Desk.refused(Desk::new, "part", 8, 0, 1);
        Desk.refused(Desk::new, "join", 8, 0, 1);
        Desk.refused(Desk::new, "join", 8, 0, 0);
        Desk.refused(Desk::new, "sell", 8, 0, 1);
        Desk.refused(Desk::new, "settle", 8, 1);
        Desk.refused(Desk::new, "buy", 8, 0);

        Desk.sentence(1, "All memory is the map's own.");
        Desk one = new Desk();
        Desk two = new Desk();
        one.due(0, "make", 8, 10, 0, 1);
        two.due(0, "count", 0).due(0, "make", 9, 20, 1, 2);
        one.looks(1, 9, 0, 10, 0, 1, 0, 0, 0, 0).due(1, "part", 9, 0, 4);
        two.looks(1, 9, 0, 20, 1, 2, 0, 0, 0, 0).due(1, "count", 1);
        new Desk().due(0, "count", 0).due(0, "count", 1);

        Desk.sentence(1, "An object is used for at most 512 calls after it has been made");
        Desk busy = settled();
        for (int call = 7; call < 512; call++) {
            busy.due(6, "count", 0);
        }
        busy.due(5000, "look", 6, 10, 0, 3);
    }

    private static void constant() {
        Desk.sentence(1, "`NONE = -1`: There is none.");
        new Desk().due(-1, "entry", 0, 0).due(TitheMap.NONE, "entry", 0, 0);
    }

    /** A refused entry stands in the way of none that comes behind it, not even of one that is like it but fits. */
    private static void refusedChangesNothing() {
        Desk.sentence(2, "A call that is refused (NONE, false) changes nothing.");
        settled().due(NONE, "price", 7, 0, 1001).due(1, "average", 6, 8, 0).due(6, "price", 7, 0, 1000).due(1000, "average", 7, 8, 0);

        Desk.sentence(3, "A call that is refused (NONE, false) changes nothing.");
        settled().due(NONE, "make", 9, 10001, 1, 7).due(2, "make", 11, 3, 2, 8).looks(7, 11, 2, 3, 2, 8, 0, 0, 0, 0).looks(7, 10, 2, NONE);

        Desk.sentence(4, "A call that is refused (NONE, false) changes nothing.");
        Desk x = settled().due(NONE, "part", 12, 0, 10).due(2, "count", 1).due(NONE, "field", 0, 3).due(2, "part", 13, 0, 9);
        x.looks(7, 12, 0, 10, 0, 1, 5000, 5000, 5000, 0).due(13, "field", 0, 1).due(6, "field", 0, 3).due(9, "look", 7, 13, 2, 0);

        Desk.sentence(5, "A call that is refused (NONE, false) changes nothing.");
        Desk y = settled().told("sell", 14, 0, 5).due(NONE, "join", 13, 0, 1).due(NONE, "join", 14, 1, 0).due(2, "count", 1);
        y.due(7, "sell", 14, 1, 5).due(2, "join", 14, 1, 0).due(1, "field", 2, 4).due(0, "field", 2, 5).due(8, "field", 0, 3);

        Desk.sentence(6, "A call that is refused (NONE, false) changes nothing.");
        settled().due(NONE, "sell", 11, 0, 1).due(NONE, "sell", 9, 2, 4).due(6, "sell", 11, 0, 4).due(1, "look", 7, 10, 0, 2)
            .due(4, "look", 7, 11, 0, 2).due(7, "count", 0);

        Desk.sentence(7, "A call that is refused (NONE, false) changes nothing.");
        settled().due(NONE, "settle", 9, 600).charges(6, 9, 0, 0, 0, 0).charges(6, 10, 0, 5000, 5000, 5000).due(6, "count", 0);
        unsettled().due(NONE, "settle", 15, 600).due(0, "parish", 4, 200, 6).due(4, "settle", 14, 3).charges(5, 14, 0, 100, 100, 100);

        Desk.sentence(8, "A call that is refused (NONE, false) changes nothing.");
        settled().due(NONE, "buy", 9, 0).due(0, "look", 6, 200, 0, 6).due(6, "buy", 11, 0).due(NONE, "buy", 12, 0)
            .charges(7, 10, 0, 5000, 5000, 5000).due(1, "look", 7, 11, 0, 6).due(7, "count", 0);
    }

    private static void wrongInSeveralWays() {
        Desk.sentence(2, "NONE: no such CORN, year, pence, 80 are there.");
        Desk.refused(EntryEdgesTest::lively, "price", 0, 3, 0);
        Desk.refused(EntryEdgesTest::lively, "price", 201, -1, 1001);
        Desk.refused(EntryEdgesTest::settled80, "price", 0, 3, 0);

        Desk.sentence(3, "NONE: no such YEAR, AREA, KIND, OWNER, 80 ENTRIES or 60 FIELDS are there.");
        Desk.refused(EntryEdgesTest::lively, "make", 7, 0, 3, 10);
        Desk.refused(EntryEdgesTest::lively, "make", 201, 10001, -1, -1);
        Desk.refused(EntryEdgesTest::settled80, "make", 7, 0, 3, 10);
        Desk.refused(() -> fields60().filled(80), "make", 8, 1, 0, 0);

        Desk.sentence(4, "NONE: no such YEAR, FIELD, AREA, 80 ENTRIES or 59 FIELDS are there, or not all would FIT.");
        Desk.refused(EntryEdgesTest::lively, "part", 7, 4, 0);
        Desk.refused(EntryEdgesTest::lively, "part", 201, -1, -1);
        Desk.refused(() -> fields60().filled(80), "part", 7, 60, 2);
        Desk.refused(() -> fields60().filled(80), "part", 9, 0, 1);
    }

    private static void priceRanges() {
        Desk.sentence(2, "A PRICE: the ENTRY's number");
        lively().due(8, "price", 7, 0, 5).due(9, "price", 7, 0, 5).due(10, "count", 0);

        Desk.sentence(2, "of a CORN (0 wheat, 1 barley, 2 oats)");
        Desk.refused(EntryEdgesTest::lively, "price", 7, -1, 5);
        Desk.refused(EntryEdgesTest::lively, "price", 7, 3, 5);
        Desk.refusedFar(EntryEdgesTest::lively, 1, "price", 7, 0, 5);
        for (int corn = 0; corn < 3; corn++) {
            new Desk().due(0, "price", 7, corn, 5).due(5, "average", 1, 8, corn);
        }

        Desk.sentence(2, "in a year (1 to 200)");
        Desk.refused(EntryEdgesTest::lively, "price", 0, 0, 5);
        Desk.refused(EntryEdgesTest::lively, "price", -1, 0, 5);
        Desk.refused(EntryEdgesTest::lively, "price", 201, 0, 5);
        Desk.refusedFar(EntryEdgesTest::lively, 0, "price", 7, 0, 5);
        Desk.taken(EntryEdgesTest::lively, 8, "price", 1, 0, 5);
        Desk.taken(EntryEdgesTest::lively, 8, "price", 200, 0, 5);

        Desk.sentence(2, "A PRICE: pence (1 to 1000)");
        Desk.refused(EntryEdgesTest::lively, "price", 7, 0, 0);
        Desk.refused(EntryEdgesTest::lively, "price", 7, 0, -1);
        Desk.refused(EntryEdgesTest::lively, "price", 7, 0, 1001);
        Desk.refusedFar(EntryEdgesTest::lively, 2, "price", 7, 0, 5);
        new Desk().due(0, "price", 7, 0, 1).due(1, "average", 1, 8, 0);
        new Desk().due(0, "price", 7, 0, 1000).due(1000, "average", 1, 8, 0);

        Desk.sentence(2, "80 are there.");
        Desk.taken(EntryEdgesTest::settled79, 79, "price", 7, 0, 5);
        Desk.refused(EntryEdgesTest::settled80, "price", 7, 0, 5);
        Desk x = new Desk();
        for (int e = 0; e < 80; e++) {
            x.due(e, "price", 7, 0, 1 + e);
        }
        x.due(NONE, "price", 7, 0, 5).due(80, "count", 0).due(80, "average", 80, 8, 0);
    }

    private static void priceWhateverActsThereAre() {
        Desk.sentence(2, "It is told whatever ACTS there are");
        for (int year = 1; year <= 200; year++) {
            for (int corn = 0; corn < 3; corn++) {
                Desk.taken(EntryEdgesTest::lively, 8, "price", year, corn, 1000);
            }
        }
        lively().told("price", 7, 0, 2).charges(8, 10, 0, 5000, 5000, 5000).charges(9, 10, 0, 2500, 5000, 5000);

        Desk.sentence(2, "one by which an ACT would not FIT any more there is none");
        Desk x = unsettled().told("settle", 10, 1).told("buy", 12, 0).charges(6, 11, 0, 100, 0, 0);
        x.due(6, "price", 7, 0, 1000).charges(7, 11, 0, 0, 0, 0).due(1, "look", 7, 12, 0, 6);
    }

    private static void makeRanges() {
        Desk.sentence(3, "each is an ACT in a YEAR (8 to 200)");
        Desk.refused(EntryEdgesTest::lively, "make", 7, 1, 0, 0);
        Desk.refused(EntryEdgesTest::lively, "make", 201, 1, 0, 0);
        Desk.refused(EntryEdgesTest::lively, "make", 0, 1, 0, 0);
        Desk.refused(EntryEdgesTest::lively, "make", -1, 1, 0, 0);
        Desk.refusedFar(EntryEdgesTest::lively, 0, "make", 8, 1, 0, 0);
        Desk.taken(EntryEdgesTest::lively, 4, "make", 8, 1, 0, 0);
        Desk.taken(EntryEdgesTest::lively, 4, "make", 200, 1, 0, 0);

        Desk.sentence(3, "a FIELD of an AREA (1 to 10000)");
        Desk.refused(EntryEdgesTest::lively, "make", 8, 0, 0, 0);
        Desk.refused(EntryEdgesTest::lively, "make", 8, -1, 0, 0);
        Desk.refused(EntryEdgesTest::lively, "make", 8, 10001, 0, 0);
        Desk.refusedFar(EntryEdgesTest::lively, 1, "make", 8, 1, 0, 0);
        new Desk().due(0, "make", 8, 1, 0, 0).due(1, "look", 1, 8, 0, 0);
        new Desk().due(0, "make", 8, 10000, 0, 0).due(10000, "look", 1, 8, 0, 0);

        Desk.sentence(3, "a KIND (0 ARABLE, 1 MEADOW, 2 WOOD)");
        Desk.refused(EntryEdgesTest::lively, "make", 8, 1, -1, 0);
        Desk.refused(EntryEdgesTest::lively, "make", 8, 1, 3, 0);
        Desk.refusedFar(EntryEdgesTest::lively, 2, "make", 8, 1, 0, 0);
        for (int kind = 0; kind < 3; kind++) {
            new Desk().due(0, "make", 8, 1, kind, 0).due(kind, "look", 1, 8, 0, 1);
        }

        Desk.sentence(3, "an OWNER (0 to 9)");
        Desk.refused(EntryEdgesTest::lively, "make", 8, 1, 0, -1);
        Desk.refused(EntryEdgesTest::lively, "make", 8, 1, 0, 10);
        Desk.refusedFar(EntryEdgesTest::lively, 3, "make", 8, 1, 0, 0);
        for (int owner = 0; owner < 10; owner++) {
            new Desk().due(0, "make", 8, 1, 0, owner).due(owner, "look", 1, 8, 0, 2);
        }
    }

    private static void makeNumbers() {
        Desk.sentence(3, "MAKE: the FIELD's number");
        lively().due(4, "make", 9, 1, 0, 0).due(4, "entry", 8, 3).due(5, "make", 8, 1, 0, 0).due(10, "count", 0);

        Desk.sentence(3, "FIELDS 0 to 59 get their numbers as ENTRIES make them.");
        Desk x = new Desk().due(0, "make", 50, 10, 0, 0).due(NONE, "make", 7, 10, 0, 0).due(1, "make", 8, 20, 0, 0);
        x.due(NONE, "part", 60, 0, 10).due(2, "part", 60, 0, 4).due(4, "join", 70, 3, 2).due(5, "make", 9, 1, 0, 0);
        x.due(20, "look", 5, 8, 1, 0).due(1, "look", 5, 9, 5, 0).due(10, "look", 5, 70, 4, 0);

        Desk.sentence(3, "without CHARGE");
        lively().due(4, "make", 11, 5, 2, 3).looks(9, 11, 4, 5, 2, 3, 0, 0, 0, 0).looks(9, 200, 4, 5, 2, 3, 0, 0, 0, 0);

        Desk.sentence(3, "80 ENTRIES or 60 FIELDS are there.");
        Desk.taken(EntryEdgesTest::settled79, 2, "make", 8, 1, 0, 0);
        Desk.refused(EntryEdgesTest::settled80, "make", 8, 1, 0, 0);
        Desk.taken(EntryEdgesTest::fields59, 59, "make", 8, 1, 0, 0);
        Desk.refused(EntryEdgesTest::fields60, "make", 8, 1, 0, 0);
        Desk.refused(EntryEdgesTest::fields60SomeEnded, "make", 8, 1, 0, 0);
    }

    private static void partRanges() {
        Desk.sentence(4, "PART: the first of the new FIELDS");
        twoFields().due(2, "part", 10, 1, 4).due(2, "entry", 2, 3).due(4, "count", 1).due(4, "part", 10, 0, 4);

        Desk.sentence(4, "each is an ACT in a YEAR (8 to 200)");
        Desk.refused(EntryEdgesTest::settled, "part", 7, 0, 5);
        Desk.refused(EntryEdgesTest::settled, "part", 201, 0, 5);
        Desk.refusedFar(EntryEdgesTest::settled, 0, "part", 8, 0, 5);
        Desk.taken(EntryEdgesTest::settled, 2, "part", 8, 0, 5);
        Desk.taken(EntryEdgesTest::settled, 2, "part", 200, 0, 5);

        Desk.sentence(4, "no such YEAR, FIELD, AREA");
        refusedWithoutField("part", 1, 11, 0, 1);
        Desk.refused(EntryEdgesTest::settled, "part", 11, 0, 0);
        Desk.refused(EntryEdgesTest::settled, "part", 11, 0, -1);
        Desk.refusedFar(EntryEdgesTest::settled, 2, "part", 11, 0, 5);

        Desk.sentence(4, "80 ENTRIES or 59 FIELDS are there, or not all would FIT.");
        Desk.taken(EntryEdgesTest::settled79, 2, "part", 11, 0, 5);
        Desk.refused(EntryEdgesTest::settled80, "part", 11, 0, 5);
        Desk.taken(EntryEdgesTest::fields58, 58, "part", 9, 57, 1);
        Desk.refused(EntryEdgesTest::fields59, "part", 9, 57, 1);
        Desk.refused(EntryEdgesTest::fields60, "part", 9, 57, 1);
        fields58().told("part", 9, 57, 1).due(1, "look", 59, 9, 59, 0).due(60, "count", 1);
    }

    /** Fields 0 and 1 there alone: every other number at that place is refused. */
    private static void refusedWithoutField(String name, int place, int... a) {
        for (int f : new int[] {-1, 2, 3, 59, 60, 61}) {
            int[] b = a.clone();
            b[place] = f;
            Desk.refused(EntryEdgesTest::settled, name, b);
        }
        Desk.refusedFar(EntryEdgesTest::settled, place, name, a);
    }

    private static Desk parted() {
        return twoFields().told("part", 12, 0, 4);
    }

    private static Desk joined() {
        return twoFields().told("join", 12, 0, 1);
    }

    private static Desk joinedGreat() {
        return new Desk().told("make", 8, 10000, 0, 0).told("make", 8, 10000, 0, 0).told("join", 8, 0, 1);
    }

    private static void partFits() {
        Desk.sentence(4, "the FIELDS that it names are there (made by ACTS done ahead, not ended)");
        Desk.refused(EntryEdgesTest::twoFields, "part", 9, 0, 5);
        Desk.taken(EntryEdgesTest::twoFields, 2, "part", 10, 0, 5);
        Desk.refused(EntryEdgesTest::parted, "part", 12, 0, 1);
        Desk.refused(EntryEdgesTest::parted, "part", 13, 0, 1);
        Desk.refused(EntryEdgesTest::parted, "part", 200, 0, 1);
        Desk.refused(EntryEdgesTest::parted, "part", 11, 2, 1);
        Desk.taken(EntryEdgesTest::parted, 4, "part", 12, 2, 1);
        Desk.taken(EntryEdgesTest::parted, 4, "part", 12, 3, 1);
        Desk.refused(EntryEdgesTest::joined, "part", 12, 0, 1);
        Desk.refused(EntryEdgesTest::joined, "part", 12, 1, 1);
        Desk.refused(EntryEdgesTest::joined, "part", 11, 2, 1);
        Desk.taken(EntryEdgesTest::joined, 3, "part", 12, 2, 1);

        Desk.sentence(4, "PART: its AREA is above that told");
        Desk.refused(EntryEdgesTest::twoFields, "part", 10, 0, 10);
        Desk.refused(EntryEdgesTest::twoFields, "part", 10, 0, 11);
        Desk.refused(EntryEdgesTest::twoFields, "part", 10, 0, 10000);
        Desk.refused(() -> new Desk().told("make", 8, 1, 0, 0), "part", 8, 0, 1);
        twoFields().due(2, "part", 10, 0, 9).due(9, "look", 3, 10, 2, 0).due(1, "look", 3, 10, 3, 0);
        twoFields().due(2, "part", 10, 0, 1).due(1, "look", 3, 10, 2, 0).due(9, "look", 3, 10, 3, 0);
        // Read so that a joined field, whose area may be above a made one's, can be parted anywhere.
        joinedGreat().due(3, "part", 8, 2, 19999).due(19999, "look", 4, 8, 3, 0).due(1, "look", 4, 8, 4, 0);
        Desk.taken(EntryEdgesTest::joinedGreat, 3, "part", 8, 2, 10001);
        Desk.refused(EntryEdgesTest::joinedGreat, "part", 8, 2, 20000);
    }

    private static void partShares() {
        Desk.sentence(4, "PART: a FIELD ends");
        lively().looks(8, 12, 1, 10, 0, 1, 5000, 5000, 5000, 0).looks(8, 13, 1, NONE).looks(8, 200, 1, NONE).due(3, "parish", 8, 13, 0);

        Desk.sentence(4, "two new ones have its KIND and OWNER, the first (the lower number) so much of its AREA, the other one the rest");
        Desk x = new Desk().told("make", 8, 7, 2, 9).told("sell", 9, 0, 3).told("part", 10, 0, 2);
        x.looks(3, 10, 0, NONE).looks(3, 10, 1, 2, 2, 3, 0, 0, 0, 0).looks(3, 10, 2, 5, 2, 3, 0, 0, 0, 0);

        Desk.sentence(4, "of its CHARGE in each CORN the first has (CHARGE times its AREA / the old one's), rounded down, the other one the rest");
        partedCharges(1, 5, 10, 30, 52, 90, 270);
        partedCharges(3, 17, 30, 90, 40, 70, 210);
        partedCharges(5, 28, 50, 150, 29, 50, 150);
        partedCharges(9, 51, 90, 270, 6, 10, 30);
        Desk small = new Desk().prices(7, 100, 100, 100).told("make", 8, 10, 0, 0).told("settle", 8, 1).charges(5, 8, 0, 1, 0, 0);
        small.told("part", 9, 0, 9).charges(6, 9, 1, 0, 0, 0).charges(6, 9, 2, 1, 0, 0);
        // The product is far above an int.
        Desk great = new Desk().prices(7, 1, 1, 1).told("make", 8, 10000, 0, 0).told("settle", 8, 1000000);
        great.charges(5, 8, 0, 33333400, 33333300, 33333300).told("part", 9, 0, 9999);
        great.charges(6, 9, 1, 33330066, 33329966, 33329966).charges(6, 9, 2, 3334, 3334, 3334);

        Desk.sentence(4, "BOUGHT ones' parts are BOUGHT.");
        Desk y = lively().told("part", 12, 0, 4).looks(9, 12, 4, 4, 0, 1, 0, 0, 0, 1).looks(9, 12, 5, 6, 0, 1, 0, 0, 0, 1);
        y.looks(9, 13, 2, 4, 0, 1, 2000, 2000, 2000, 0).looks(9, 13, 3, 6, 0, 1, 3000, 3000, 3000, 0);
        y.told("buy", 13, 2).due(1, "look", 10, 13, 2, 6).due(0, "look", 10, 13, 3, 6).due(1, "look", 10, 13, 4, 6);
    }

    /** A field of area 10 with charges 57, 100, 300, parted: the charges of the first, then of the other one. */
    private static void partedCharges(int area, int... want) {
        Desk x = new Desk().prices(7, 7, 3, 1).told("make", 10, 10, 1, 4).told("settle", 11, 10).charges(5, 11, 0, 57, 100, 300);
        x.told("part", 12, 0, area).charges(6, 12, 1, want[0], want[1], want[2]).charges(6, 12, 2, want[3], want[4], want[5]);
    }

    private static void joinRanges() {
        Desk.sentence(5, "JOIN: the new FIELD");
        twoFields().due(2, "join", 10, 1, 0).due(2, "entry", 2, 3).due(3, "count", 1).due(3, "make", 8, 1, 0, 0);

        Desk.sentence(5, "each is an ACT in a YEAR (8 to 200)");
        Desk.refused(EntryEdgesTest::settled, "join", 7, 0, 1);
        Desk.refused(EntryEdgesTest::settled, "join", 201, 0, 1);
        Desk.refusedFar(EntryEdgesTest::settled, 0, "join", 8, 0, 1);
        Desk.taken(EntryEdgesTest::settled, 2, "join", 8, 0, 1);
        Desk.taken(EntryEdgesTest::settled, 2, "join", 200, 0, 1);

        Desk.sentence(5, "NONE likewise (60 FIELDS).");
        refusedWithoutField("join", 1, 11, 0, 1);
        refusedWithoutField("join", 2, 11, 0, 1);
        Desk.refused(EntryEdgesTest::settled, "join", 11, 2, 2);
        Desk.refused(EntryEdgesTest::settled, "join", 11, -1, -1);
        Desk.taken(EntryEdgesTest::settled79, 2, "join", 11, 0, 1);
        Desk.refused(EntryEdgesTest::settled80, "join", 11, 0, 1);
        Desk.taken(EntryEdgesTest::fields58, 58, "join", 9, 0, 57);
        Desk.taken(EntryEdgesTest::fields59, 59, "join", 9, 0, 58);
        Desk.refused(EntryEdgesTest::fields60, "join", 9, 0, 59);
        Desk.refused(EntryEdgesTest::fields60SomeEnded, "join", 9, 20, 21);
    }

    private static Desk unlike() {
        return twoFields().told("make", 10, 10, 1, 1).told("make", 10, 10, 2, 1).told("make", 10, 10, 0, 2);
    }

    private static Desk soldLater() {
        return twoFields().told("sell", 12, 0, 5).told("sell", 14, 1, 5);
    }

    private static Desk oneBought() {
        return settled().told("buy", 12, 0);
    }

    private static Desk bothBought() {
        return oneBought().told("buy", 13, 1);
    }

    private static void joinFits() {
        Desk.sentence(5, "the FIELDS that it names are there (made by ACTS done ahead, not ended)");
        Desk.refused(EntryEdgesTest::twoFields, "join", 9, 0, 1);
        Desk.refused(() -> twoFields().told("make", 11, 1, 0, 1), "join", 10, 0, 2);
        Desk.refused(() -> twoFields().told("make", 11, 1, 0, 1), "join", 10, 2, 0);
        Desk.taken(() -> twoFields().told("make", 11, 1, 0, 1), 3, "join", 11, 2, 0);
        Desk.refused(EntryEdgesTest::parted, "join", 12, 0, 1);
        Desk.refused(EntryEdgesTest::parted, "join", 13, 1, 0);
        Desk.refused(EntryEdgesTest::parted, "join", 11, 1, 2);
        Desk.taken(EntryEdgesTest::parted, 4, "join", 12, 1, 2);
        Desk.taken(EntryEdgesTest::parted, 4, "join", 12, 3, 2);
        Desk.refused(EntryEdgesTest::joined, "join", 12, 0, 1);
        Desk.refused(EntryEdgesTest::joined, "join", 13, 2, 1);

        Desk.sentence(5, "JOIN: two FIELDS that fit as told");
        Desk.refused(EntryEdgesTest::twoFields, "join", 10, 0, 0);
        Desk.refused(EntryEdgesTest::twoFields, "join", 10, 1, 1);
        Desk.refused(EntryEdgesTest::bothBought, "join", 14, 1, 1);
        Desk.taken(EntryEdgesTest::twoFields, 2, "join", 10, 0, 1);
        Desk.taken(EntryEdgesTest::twoFields, 2, "join", 10, 1, 0);

        Desk.sentence(5, "JOIN: two FIELDS of one KIND and OWNER");
        for (int g = 2; g < 5; g++) {
            Desk.refused(EntryEdgesTest::unlike, "join", 10, 0, g);
            Desk.refused(EntryEdgesTest::unlike, "join", 10, g, 0);
        }
        // The owners of that year count: both 1 up to year 11, both 5 from year 14 on.
        Desk.refused(EntryEdgesTest::soldLater, "join", 12, 0, 1);
        Desk.refused(EntryEdgesTest::soldLater, "join", 13, 0, 1);
        soldLater().due(2, "join", 14, 0, 1).due(5, "look", 5, 14, 2, 2);

        Desk.sentence(5, "both BOUGHT or both not, end");
        Desk.refused(EntryEdgesTest::oneBought, "join", 12, 0, 1);
        Desk.refused(EntryEdgesTest::oneBought, "join", 12, 1, 0);
        Desk.refused(EntryEdgesTest::oneBought, "join", 200, 1, 0);
        Desk.refused(EntryEdgesTest::bothBought, "join", 12, 0, 1);
        bothBought().due(2, "join", 13, 0, 1).looks(9, 13, 2, 20, 0, 1, 0, 0, 0, 1).looks(9, 13, 0, NONE).looks(9, 13, 1, NONE);
        settled().due(2, "join", 10, 0, 1).due(0, "look", 7, 10, 2, 6).looks(7, 10, 0, NONE).looks(7, 10, 1, NONE);

        Desk.sentence(5, "a new one has their AREAS and CHARGES together");
        settled().told("join", 10, 0, 1).looks(7, 10, 2, 20, 0, 1, 10000, 10000, 10000, 0);
        joinedGreat().looks(3, 8, 2, 20000, 0, 0, 0, 0, 0, 0);
        Desk x = new Desk();
        for (int f = 0; f < 30; f++) {
            x.told("make", 8, 10000, 1, 7);
        }
        x.due(30, "join", 8, 0, 1);
        for (int f = 2; f < 30; f++) {
            x.due(29 + f, "join", 8, f, 28 + f);
        }
        x.due(300000, "look", 59, 8, 58, 0).due(1, "parish", 59, 8, 0);
    }

    private static void sellRanges() {
        Desk.sentence(6, "SELL: the ENTRY's number; NONE likewise.");
        lively().due(8, "sell", 14, 2, 5).due(9, "sell", 14, 3, 5).due(4, "count", 1);
        refusedWithoutField("sell", 1, 11, 0, 5);
        Desk.taken(EntryEdgesTest::settled79, 79, "sell", 11, 0, 5);
        Desk.refused(EntryEdgesTest::settled80, "sell", 11, 0, 5);
        Desk.taken(EntryEdgesTest::fields59, 59, "sell", 9, 58, 5);
        Desk.taken(EntryEdgesTest::fields60, 60, "sell", 9, 59, 5);

        Desk.sentence(6, "each is an ACT in a YEAR (8 to 200)");
        Desk.refused(EntryEdgesTest::settled, "sell", 7, 0, 5);
        Desk.refused(EntryEdgesTest::settled, "sell", 201, 0, 5);
        Desk.refusedFar(EntryEdgesTest::settled, 0, "sell", 8, 0, 5);
        Desk.taken(EntryEdgesTest::settled, 6, "sell", 8, 0, 5);
        Desk.taken(EntryEdgesTest::settled, 6, "sell", 200, 0, 5);

        Desk.sentence(6, "an OWNER (0 to 9)");
        Desk.refused(EntryEdgesTest::settled, "sell", 11, 0, -1);
        Desk.refused(EntryEdgesTest::settled, "sell", 11, 0, 10);
        Desk.refusedFar(EntryEdgesTest::settled, 2, "sell", 11, 0, 5);
        settled().due(6, "sell", 11, 0, 0).due(0, "look", 7, 11, 0, 2);
        settled().due(6, "sell", 11, 0, 9).due(9, "look", 7, 11, 0, 2);
    }

    private static Desk sold() {
        return twoFields().told("sell", 12, 0, 2);
    }

    private static void sellFits() {
        Desk.sentence(6, "the FIELDS that it names are there (made by ACTS done ahead, not ended)");
        Desk.refused(EntryEdgesTest::twoFields, "sell", 9, 0, 5);
        Desk.taken(EntryEdgesTest::twoFields, 2, "sell", 10, 0, 5);
        Desk.refused(EntryEdgesTest::parted, "sell", 12, 0, 5);
        Desk.refused(EntryEdgesTest::parted, "sell", 13, 0, 5);
        Desk.taken(EntryEdgesTest::parted, 3, "sell", 11, 0, 5);
        Desk.refused(EntryEdgesTest::parted, "sell", 11, 2, 5);
        Desk.taken(EntryEdgesTest::parted, 3, "sell", 12, 2, 5);
        Desk.refused(EntryEdgesTest::joined, "sell", 12, 1, 5);
        Desk.taken(EntryEdgesTest::joined, 3, "sell", 12, 2, 5);

        Desk.sentence(6, "SELL: the OWNER is another one");
        Desk.refused(EntryEdgesTest::twoFields, "sell", 10, 0, 1);
        Desk.refused(EntryEdgesTest::sold, "sell", 12, 0, 2);
        Desk.refused(EntryEdgesTest::sold, "sell", 13, 0, 2);
        Desk.refused(EntryEdgesTest::sold, "sell", 11, 0, 1);
        Desk.taken(EntryEdgesTest::sold, 3, "sell", 12, 0, 1);
        Desk.taken(EntryEdgesTest::sold, 3, "sell", 13, 0, 1);
        Desk.taken(EntryEdgesTest::sold, 3, "sell", 12, 1, 2);

        Desk.sentence(6, "SELL: a FIELD gets another OWNER.");
        settled().told("buy", 12, 0).told("sell", 12, 0, 9).looks(8, 12, 0, 10, 0, 9, 0, 0, 0, 1);
        settled().told("sell", 10, 0, 9).looks(7, 10, 0, 10, 0, 9, 5000, 5000, 5000, 0).looks(7, 10, 1, 10, 0, 1, 5000, 5000, 5000, 0);
    }

    private static Desk pricedLate() {
        return new Desk().prices(199, 1, 1, 1).prices(200, 1, 1, 1).told("make", 8, 10, 0, 1);
    }

    private static void settleRanges() {
        Desk.sentence(7, "SETTLE: the ENTRY's number; NONE likewise.");
        unsettled().due(4, "settle", 8, 1).due(1, "count", 1);
        Desk.taken(EntryEdgesTest::unsettled79, 79, "settle", 8, 1);
        Desk.refused(EntryEdgesTest::unsettled80, "settle", 8, 1);
        new Desk().prices(7, 1, 1, 1).made(60).due(63, "settle", 8, 1);

        Desk.sentence(7, "each is an ACT in a YEAR (8 to 200)");
        Desk.refused(() -> new Desk().prices(6, 1, 1, 1).told("make", 8, 10, 0, 1), "settle", 7, 1);
        Desk.taken(EntryEdgesTest::unsettled, 4, "settle", 8, 1);
        Desk.taken(EntryEdgesTest::pricedLate, 7, "settle", 200, 1);
        Desk.refused(EntryEdgesTest::pricedLate, "settle", 201, 1);
        Desk.refusedFar(EntryEdgesTest::unsettled, 0, "settle", 8, 1);

        Desk.sentence(7, "SETTLE, once: pence (1 to 1000000)");
        for (int pence : new int[] {0, -1, 1000001, Integer.MIN_VALUE, Integer.MIN_VALUE + 1, Integer.MAX_VALUE}) {
            Desk.refused(EntryEdgesTest::unsettled, "settle", 8, pence);
        }
        unsettled().due(4, "settle", 8, 1).charges(5, 8, 0, 100, 0, 0);
        unsettled().due(4, "settle", 8, 1000000).charges(5, 8, 0, 33333400, 33333300, 33333300);
    }

    /** Prices in year 7 of all corns but one, which has some that do not count for year 10: too early, too late. */
    private static Desk without(int corn) {
        Desk x = new Desk().told("make", 8, 10, 0, 1);
        for (int other = 0; other < 3; other++) {
            if (other != corn) {
                x.told("price", 7, other, 5);
            }
        }
        return x.told("price", 2, corn, 5).told("price", 10, corn, 5).told("price", 11, corn, 5);
    }

    private static void settleFits() {
        Desk.sentence(7, "SETTLE: none was done");
        for (int year = 8; year <= 14; year++) {
            Desk.refused(EntryEdgesTest::settled, "settle", year, 300);
        }
        Desk.refused(EntryEdgesTest::lively, "settle", 14, 1);

        Desk.sentence(7, "some FIELD is there");
        Desk.refused(() -> new Desk().prices(7, 1, 1, 1), "settle", 8, 1);
        Desk.refused(() -> new Desk().prices(7, 1, 1, 1).told("make", 10, 1, 2, 0), "settle", 9, 1);
        Desk.taken(() -> new Desk().prices(7, 1, 1, 1).told("make", 10, 1, 2, 0), 4, "settle", 10, 1);

        Desk.sentence(7, "THE AVERAGES of all CORNS are");
        for (int corn = 0; corn < 3; corn++) {
            int wanting = corn;
            Desk.refused(() -> without(wanting), "settle", 10, 1);
            without(corn).told("price", 3, corn, 5).due(7, "settle", 10, 1);
            without(corn).told("price", 9, corn, 5).due(7, "settle", 10, 1);
        }
        Desk.refused(() -> new Desk().told("make", 8, 10, 0, 1), "settle", 8, 1);
    }

    /** Shared out in year 8 at a penny a bushel: pence, then each field's kind, area, and share as it is due. */
    private static void shares(int pence, int... kindAreaShare) {
        Desk x = new Desk().prices(7, 1, 1, 1);
        int n = kindAreaShare.length / 3;
        for (int f = 0; f < n; f++) {
            x.told("make", 8, kindAreaShare[3 * f + 1], kindAreaShare[3 * f], 0);
        }
        x.told("settle", 8, pence);
        for (int f = 0; f < n; f++) {
            x.due(kindAreaShare[3 * f + 2], "money", n + 4, 8, f);
        }
        x.due(pence, "owed", n + 4, 8, NONE);
    }

    private static void settleShares() {
        Desk.sentence(7, "by AREA times weight (ARABLE 3, MEADOW 2, WOOD 1)");
        shares(6, 0, 1, 3, 1, 1, 2, 2, 1, 1);
        shares(10, 2, 6, 6, 1, 1, 2, 2, 2, 2);
        shares(1000000, 0, 10000, 500000, 1, 10000, 333333, 2, 10000, 166667);

        Desk.sentence(7, "each has its share rounded down; pence left go one by one to those of the greatest remainders");
        shares(2, 2, 1, 1, 2, 1, 1);
        shares(1, 2, 1, 0, 2, 2, 1);
        shares(1, 2, 2, 1, 2, 1, 0);
        shares(1, 2, 7, 1);
        // Weights 1, 2, 3, 4 of 10, 7 pence: 0.7, 1.4, 2.1, 2.8: two are left.
        shares(7, 2, 1, 1, 2, 2, 1, 2, 3, 2, 2, 4, 3);
        // 0.9 and 8.1: the smaller field has the penny.
        shares(9, 2, 9, 8, 2, 1, 1);
        // The greatest remainder is not the greatest share: 3.33, 1.67.
        shares(5, 2, 2, 3, 2, 1, 2);

        Desk.sentence(7, "of like ones the lowest numbers");
        shares(1, 2, 1, 1, 2, 1, 0, 2, 1, 0);
        shares(2, 2, 1, 1, 2, 1, 1, 2, 1, 0);
        shares(5, 2, 1, 2, 2, 1, 2, 2, 1, 1);
        // 1.5, 0.5, 1, 1: like remainders of unlike shares; one penny is left.
        shares(4, 2, 3, 2, 2, 1, 0, 2, 2, 1, 2, 2, 1);
        shares(4, 2, 1, 1, 2, 3, 1, 2, 2, 1, 2, 2, 1);
        // 0.2, 0.6, 0.6, 0.6 of 2: the greatest go first, though a lower number is there.
        shares(2, 2, 1, 0, 2, 3, 1, 2, 3, 1, 2, 3, 0);

        Desk.sentence(7, "pence (1 to 1000000) are shared out to all FIELDS there");
        for (int pence : new int[] {1, 59, 60, 61, 119, 120, 1000000}) {
            Desk x = new Desk().prices(7, 1, 1, 1).made(60).told("settle", 8, pence);
            for (int f = 0; f < 60; f++) {
                x.due(pence / 60 + (f < pence % 60 ? 1 : 0), "money", 64, 8, f);
            }
            x.due(pence, "owed", 64, 8, NONE);
        }
        // 30 fields of 10000 as one: pence times weight is far above an int.
        Desk great = new Desk().prices(7, 1, 1, 1);
        for (int f = 0; f < 30; f++) {
            great.told("make", 8, 10000, 0, 7);
        }
        great.told("join", 8, 0, 1);
        for (int f = 2; f < 30; f++) {
            great.told("join", 8, f, 28 + f);
        }
        great.told("make", 8, 1, 2, 7).told("settle", 8, 1000000);
        // Weights 900000 and 1: 999998.9 and 1.1.
        great.due(999999, "money", 64, 8, 58).due(1, "money", 64, 8, 59);
    }

    private static void settleWhoHasAShare() {
        Desk.sentence(7, "to all FIELDS there");
        // Field 0 has ended, 1 and 2 are its parts, 3 comes in a later year, 4 in that year but behind the settling.
        Desk x = new Desk().prices(7, 1, 1, 1).told("make", 8, 10, 0, 1).told("part", 9, 0, 4).told("make", 11, 50, 0, 1);
        x.told("settle", 10, 30).told("make", 10, 50, 0, 1);
        x.looks(7, 10, 0, NONE).due(12, "money", 7, 10, 1).due(18, "money", 7, 10, 2);
        x.due(0, "money", 8, 11, 3).due(0, "money", 8, 10, 4).due(30, "owed", 8, 11, NONE);
        // Told later, but in an earlier year: it has a share, by those knowings that know of it.
        x.due(5, "make", 9, 5, 0, 2).due(10, "money", 9, 10, 5).due(8, "money", 9, 10, 1).due(12, "money", 9, 10, 2);
        x.due(12, "money", 8, 10, 1).due(NONE, "money", 8, 10, 5);
        // Fields of every owner, and one sold.
        Desk y = new Desk().prices(7, 1, 1, 1).told("make", 8, 1, 0, 0).told("make", 8, 1, 0, 9).told("sell", 8, 0, 5);
        y.told("settle", 8, 4).due(2, "owed", 7, 8, 5).due(2, "owed", 7, 8, 9).due(0, "owed", 7, 8, 0);
    }

    /** The charges of one field to which all pence go, by these averages. */
    private static void charged(int pence, int wheat, int barley, int oats, int... want) {
        Desk x = new Desk().prices(7, wheat, barley, oats).told("make", 8, 1, 2, 0).told("settle", 8, pence);
        x.charges(5, 8, 0, want[0], want[1], want[2]);
    }

    private static void settleCharges() {
        Desk.sentence(7, "Each share goes to three thirds, a penny left to wheat, two to wheat and barley");
        charged(1, 1, 1, 1, 100, 0, 0);
        charged(2, 1, 1, 1, 100, 100, 0);
        charged(3, 1, 1, 1, 100, 100, 100);
        charged(4, 1, 1, 1, 200, 100, 100);
        charged(5, 1, 1, 1, 200, 200, 100);
        charged(999999, 1, 1, 1, 33333300, 33333300, 33333300);
        shares(1, 2, 1, 1, 2, 1, 0);
        new Desk().prices(7, 1, 1, 1).made(2).told("settle", 8, 1).charges(6, 8, 1, 0, 0, 0);

        Desk.sentence(7, "100 times its pence / THE AVERAGE for that YEAR, to the nearest whole (a half up), is the FIELD's CHARGE in that CORN");
        charged(3, 200, 201, 199, 1, 0, 1);
        charged(3, 8, 3, 7, 13, 33, 14);
        charged(6, 3, 16, 9, 67, 13, 22);
        charged(15, 1000, 1000, 999, 1, 1, 1);
        charged(12, 1000, 801, 800, 0, 0, 1);
        charged(1000000, 1000, 1000, 1000, 33333, 33333, 33333);
        // The average of that year, not of a year beside it.
        Desk x = new Desk().prices(1, 4, 4, 4).prices(8, 10, 10, 10).told("make", 8, 1, 0, 0);
        x.told("settle", 8, 3).charges(8, 8, 0, 25, 25, 25).charges(8, 200, 0, 25, 25, 25);
        Desk y = new Desk().prices(1, 4, 4, 4).prices(8, 10, 10, 10).told("make", 8, 1, 0, 0);
        y.told("settle", 9, 3).charges(8, 9, 0, 10, 10, 10);
    }

    private static void buyRanges() {
        Desk.sentence(8, "BUY: the ENTRY's number; NONE likewise.");
        settled().due(6, "buy", 12, 0).due(7, "buy", 12, 1).due(2, "count", 1);
        refusedWithoutField("buy", 1, 11, 0);
        Desk.taken(EntryEdgesTest::settled79, 79, "buy", 11, 0);
        Desk.refused(EntryEdgesTest::settled80, "buy", 11, 0);
        new Desk().prices(7, 1, 1, 1).made(60).told("settle", 8, 1).due(64, "buy", 8, 59);

        Desk.sentence(8, "each is an ACT in a YEAR (8 to 200)");
        Desk.refused(EntryEdgesTest::settled, "buy", 7, 0);
        Desk.refused(EntryEdgesTest::settled, "buy", 201, 0);
        Desk.refusedFar(EntryEdgesTest::settled, 0, "buy", 10, 0);
        Desk.taken(EntryEdgesTest::settled, 6, "buy", 200, 0);
        Desk.taken(() -> unsettled().told("settle", 8, 1), 5, "buy", 8, 0);
    }

    private static void buyFits() {
        Desk.sentence(8, "the FIELDS that it names are there (made by ACTS done ahead, not ended)");
        Desk.refused(() -> settled().told("make", 13, 1, 0, 0), "buy", 12, 2);
        Desk.taken(() -> settled().told("make", 13, 1, 0, 0), 7, "buy", 13, 2);
        Desk.refused(EntryEdgesTest::lively, "buy", 13, 1);
        Desk.refused(EntryEdgesTest::lively, "buy", 14, 1);
        Desk.refused(EntryEdgesTest::lively, "buy", 12, 2);
        Desk.taken(EntryEdgesTest::lively, 8, "buy", 13, 2);
        Desk.refused(() -> settled().told("join", 13, 0, 1), "buy", 13, 0);
        Desk.taken(() -> settled().told("join", 13, 0, 1), 7, "buy", 13, 2);

        Desk.sentence(8, "BUY: SETTLE was done, the FIELD is not BOUGHT.");
        Desk.refused(EntryEdgesTest::unsettled, "buy", 12, 0);
        Desk.refused(EntryEdgesTest::settled, "buy", 9, 0);
        Desk.taken(EntryEdgesTest::settled, 6, "buy", 10, 0);
        Desk.refused(EntryEdgesTest::oneBought, "buy", 12, 0);
        Desk.refused(EntryEdgesTest::oneBought, "buy", 13, 0);
        Desk.refused(EntryEdgesTest::oneBought, "buy", 11, 0);
        Desk.refused(EntryEdgesTest::oneBought, "buy", 200, 0);
        Desk.refused(() -> oneBought().told("part", 13, 0, 4), "buy", 13, 2);
        Desk.refused(() -> oneBought().told("part", 13, 0, 4), "buy", 14, 3);
        Desk.refused(() -> bothBought().told("join", 13, 0, 1), "buy", 13, 2);
        Desk.refused(() -> oneBought().told("sell", 13, 0, 4), "buy", 14, 0);

        Desk.sentence(8, "a FIELD is BOUGHT, its CHARGE is 0 from then on.");
        oneBought().looks(7, 11, 0, 10, 0, 1, 5000, 5000, 5000, 0).looks(7, 12, 0, 10, 0, 1, 0, 0, 0, 1)
            .looks(7, 200, 0, 10, 0, 1, 0, 0, 0, 1).looks(7, 12, 1, 10, 0, 1, 5000, 5000, 5000, 0);
        oneBought().prices(7, 3, 3, 3).looks(10, 12, 0, 10, 0, 1, 0, 0, 0, 1).charges(10, 11, 0, 1667, 1667, 1667);
        settled().told("make", 11, 7, 2, 3).told("buy", 11, 2).looks(8, 11, 2, 7, 2, 3, 0, 0, 0, 1);
    }

    private static void orderOfActs() {
        Desk.sentence(6, "are done by YEARS, those of one YEAR in the order of ENTRIES, from no FIELDS on");
        Desk x = twoFields().told("sell", 12, 0, 3).told("sell", 12, 0, 2).told("sell", 11, 0, 5);
        x.due(1, "look", 5, 10, 0, 2).due(5, "look", 5, 11, 0, 2).due(2, "look", 5, 12, 0, 2).due(3, "look", 3, 12, 0, 2);

        Desk.sentence(4, "are done by YEARS, those of one YEAR in the order of ENTRIES, from no FIELDS on");
        Desk.refused(() -> twoFields().told("part", 12, 0, 4), "sell", 12, 0, 3);
        twoFields().told("sell", 12, 0, 3).told("part", 12, 0, 4).due(3, "look", 4, 12, 2, 2).due(3, "look", 4, 12, 3, 2);
        // Told ahead of the parting, but of a later year: it names a field that is gone by then.
        Desk.refused(() -> twoFields().told("sell", 13, 0, 3), "part", 12, 0, 4);

        Desk.sentence(7, "are done by YEARS, those of one YEAR in the order of ENTRIES, from no FIELDS on");
        Desk late = new Desk().prices(7, 1, 1, 1).told("make", 20, 1, 2, 0).told("make", 8, 1, 2, 0).told("settle", 8, 3);
        late.charges(6, 20, 0, 0, 0, 0).charges(6, 20, 1, 100, 100, 100);

        Desk.sentence(8, "are done by YEARS, those of one YEAR in the order of ENTRIES, from no FIELDS on");
        Desk.refused(() -> unsettled().told("settle", 10, 3), "buy", 9, 0);
        // Bought behind the parting of one year, and ahead of it.
        settled().told("part", 12, 0, 4).told("buy", 12, 2).due(1, "look", 8, 12, 2, 6).due(0, "look", 8, 12, 3, 6);
        settled().told("buy", 12, 0).told("part", 12, 0, 4).due(1, "look", 8, 12, 2, 6).due(1, "look", 8, 12, 3, 6);
    }

    private static Desk laterSale() {
        return settled().told("sell", 14, 0, 5);
    }

    private static Desk laterPurchase() {
        return settled().told("buy", 14, 0);
    }

    private static Desk laterParting() {
        return settled().told("part", 14, 0, 4);
    }

    private static Desk laterJoining() {
        return settled().told("join", 14, 0, 1);
    }

    /** An act that ends field 0 in an earlier year, where field 0 is named later on. */
    private static void lateActsOnOneField() {
        Desk.sentence(4, "also those of later YEARS that were told ahead of it");
        Desk.refused(EntryEdgesTest::laterSale, "part", 13, 0, 4);
        Desk.refused(EntryEdgesTest::laterPurchase, "part", 13, 0, 4);
        Desk.refused(EntryEdgesTest::laterParting, "part", 13, 0, 4);
        Desk.refused(EntryEdgesTest::laterJoining, "part", 13, 0, 4);
        Desk.refused(EntryEdgesTest::laterJoining, "part", 13, 1, 4);
        Desk.taken(EntryEdgesTest::laterSale, 2, "part", 14, 0, 4);
        Desk.taken(EntryEdgesTest::laterSale, 2, "part", 13, 1, 4);
        Desk.taken(EntryEdgesTest::laterParting, 4, "part", 13, 1, 4);

        Desk.sentence(5, "also those of later YEARS that were told ahead of it");
        Desk.refused(EntryEdgesTest::laterSale, "join", 13, 0, 1);
        Desk.refused(EntryEdgesTest::laterSale, "join", 13, 1, 0);
        Desk.refused(EntryEdgesTest::laterPurchase, "join", 13, 0, 1);
        Desk.refused(EntryEdgesTest::laterParting, "join", 13, 0, 1);
        Desk.refused(EntryEdgesTest::laterJoining, "join", 13, 0, 1);
        Desk.taken(() -> laterSale().told("make", 8, 1, 0, 1), 3, "join", 13, 2, 1);
    }

    private static void lateActsThatChangeAField() {
        Desk.sentence(6, "also those of later YEARS that were told ahead of it");
        Desk.refused(EntryEdgesTest::laterSale, "sell", 13, 0, 5);
        Desk.taken(EntryEdgesTest::laterSale, 7, "sell", 13, 0, 6);
        Desk.refused(EntryEdgesTest::laterJoining, "sell", 13, 0, 5);
        Desk.refused(EntryEdgesTest::laterJoining, "sell", 13, 1, 5);
        Desk.taken(EntryEdgesTest::laterJoining, 7, "sell", 14, 2, 5);
        laterParting().due(7, "sell", 13, 0, 5).due(5, "look", 8, 14, 2, 2).due(5, "look", 8, 14, 3, 2).due(1, "look", 7, 14, 2, 2);
        // The sale of a part to one who has it by then already.
        Desk.refused(() -> laterParting().told("sell", 15, 3, 5), "sell", 13, 0, 5);
        Desk.taken(EntryEdgesTest::laterPurchase, 7, "sell", 13, 0, 5);

        Desk.sentence(7, "also those of later YEARS that were told ahead of it");
        Desk.refused(() -> unsettled().told("settle", 14, 5), "settle", 9, 5);
        Desk.refused(() -> unsettled().told("settle", 14, 5).told("buy", 14, 0), "settle", 14, 5);
        Desk.taken(() -> unsettled().told("sell", 14, 0, 5).told("part", 15, 0, 4), 6, "settle", 9, 5);

        Desk.sentence(8, "also those of later YEARS that were told ahead of it");
        Desk.refused(EntryEdgesTest::laterPurchase, "buy", 13, 0);
        Desk.taken(EntryEdgesTest::laterPurchase, 7, "buy", 13, 1);
        Desk.refused(EntryEdgesTest::laterJoining, "buy", 13, 0);
        Desk.refused(EntryEdgesTest::laterJoining, "buy", 13, 1);
        Desk.refused(() -> laterParting().told("buy", 15, 3), "buy", 13, 0);
        Desk.refused(() -> laterParting().told("make", 8, 1, 0, 1).told("join", 15, 3, 4), "buy", 13, 0);
        laterParting().due(7, "buy", 13, 0).due(1, "look", 8, 14, 2, 6).due(1, "look", 8, 14, 3, 6).due(0, "look", 7, 14, 2, 6);

        Desk.sentence(3, "also those of later YEARS that were told ahead of it");
        lively().due(4, "make", 8, 10, 0, 1).charges(9, 11, 4, 3400, 3300, 3300);
    }

    /** The last years first: each new act is done ahead of all that were told. */
    private static Desk acts79() {
        Desk x = new Desk();
        for (int f = 0; f < 58; f++) {
            x.told("make", 100 - f, 2, 0, 0);
        }
        for (int owner = 1; owner <= 9; owner++) {
            x.told("sell", 150 - owner, 57, owner);
        }
        for (int f = 0; f < 12; f++) {
            x.told("sell", 120 - f, f, 3);
        }
        return x;
    }

    private static void allEntriesAreActs() {
        Desk.sentence(6, "ENTRIES 0 to 79, in the order in which they were told");
        Desk x = acts79().due(NONE, "sell", 150, 57, 1).due(NONE, "sell", 140, 57, 9).due(79, "sell", 150, 57, 9);
        x.due(NONE, "sell", 151, 57, 8).due(80, "count", 0);
        for (int owner = 1; owner <= 9; owner++) {
            x.due(owner, "look", 80, 150 - owner, 57, 2).due(0, "look", 57 + owner, 149 - owner, 57, 2);
        }
        x.due(9, "look", 80, 150, 57, 2).due(1, "look", 79, 150, 57, 2).due(1, "parish", 80, 43, 0).due(58, "parish", 80, 100, 0);

        Desk.sentence(4, "ENTRIES 0 to 79, in the order in which they were told");
        Desk y = acts79().due(NONE, "part", 140, 57, 1).due(NONE, "part", 149, 57, 2).due(58, "part", 149, 57, 1);
        y.due(60, "count", 1).due(1, "look", 80, 149, 59, 2).due(79, "field", 57, 3).due(79, "field", 59, 2).due(58, "entry", 79, 3);

        Desk.sentence(5, "ENTRIES 0 to 79, in the order in which they were told");
        Desk z = acts79().due(NONE, "join", 119, 0, 1).due(58, "join", 120, 0, 1).due(NONE, "join", 121, 2, 3);
        z.due(4, "look", 80, 120, 58, 0).due(79, "field", 0, 3).due(79, "field", 1, 3).due(58, "entry", 79, 3);
    }
}
