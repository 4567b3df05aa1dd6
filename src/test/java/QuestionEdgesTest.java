/** Promises 9 to 18, what is asked: a test for each sentence of the document that names a boundary case. */
public final class QuestionEdgesTest {
    private static final int NONE = Desk.NONE;

    public static void main(String[] args) {
        averageRanges();
        averageYears();
        averageRounding();
        averageLastKnown();
        lookRanges();
        lookIsNotThere();
        lookInAYear();
        moneyRanges();
        moneyRounding();
        moneyWanting();
        owedRanges();
        owedOwners();
        parishRanges();
        parishSums();
        costRanges();
        costAheadOfTheBuy();
        fieldRanges();
        fieldWhats();
        differRanges();
        differWays();
        entryRanges();
        entryWhats();
        count();
        refusedQuestionsChangeNothing();
        answersChangeNothing();
        allEntriesKnown();
        Desk.end();
    }

    /**
     * Entries 0 to 2: prices of year 7; 3, 4: fields 0 and 1 in year 9; 5: settled in year 10; 6: field 0 sold in
     * year 11; 7: field 0 bought in year 12; 8: field 1 parted to 2 and 3 in year 13; 9: those joined to 4 in year 14.
     */
    private static Desk full() {
        return new Desk().prices(7, 1, 1, 1).told("make", 9, 10, 0, 1).told("make", 9, 10, 0, 1).told("settle", 10, 300)
            .told("sell", 11, 0, 5).told("buy", 12, 0).told("part", 13, 1, 4).told("join", 14, 3, 2);
    }

    /** A field of owner 0 with charges 10000 in each corn from year 8 on; prices are in reach of years 8, 200 and 201. */
    private static Desk priced() {
        return new Desk().prices(7, 1, 1, 1).prices(199, 3, 3, 3).told("make", 8, 10, 2, 0).told("settle", 8, 300);
    }

    private static void averageRanges() {
        Desk.sentence(9, "THE AVERAGE of a CORN for year y (1 to 200) by KNOWING k");
        Desk x = new Desk().told("price", 1, 0, 4).told("price", 199, 0, 6).told("price", 200, 0, 8);
        x.due(NONE, "average", 3, 0, 0).due(NONE, "average", 3, 1, 0).due(4, "average", 3, 2, 0);
        x.due(6, "average", 3, 200, 0).due(NONE, "average", 3, 201, 0).due(NONE, "average", 3, 202, 0);
        x.due(NONE, "average", 3, -1, 0).noneFar(1, "average", 3, 8, 0);

        Desk.sentence(9, "NONE: no such ones, or there is none.");
        x.due(NONE, "average", 3, 8, -1).due(4, "average", 3, 8, 0).due(NONE, "average", 3, 8, 1);
        x.due(NONE, "average", 3, 8, 2).due(NONE, "average", 3, 8, 3).noneFar(2, "average", 3, 8, 0);

        Desk.sentence(9, "A KNOWING k (0 to how many there are) has the first k ENTRIES.");
        x.due(NONE, "average", -1, 8, 0).due(NONE, "average", 0, 8, 0).due(4, "average", 1, 8, 0).due(4, "average", 3, 8, 0);
        x.due(NONE, "average", 4, 8, 0).noneFar(0, "average", 3, 8, 0);
        x.due(NONE, "average", 1, 200, 0).due(6, "average", 2, 200, 0);
        new Desk().filled(79).told("price", 5, 2, 9).due(9, "average", 80, 6, 2).due(NONE, "average", 79, 6, 2)
            .due(NONE, "average", 81, 6, 2);
    }

    private static void averageYears() {
        Desk.sentence(9, "the sum of those known for the seven years ahead of it");
        for (int year : new int[] {1, 2, 8, 100, 192, 193, 194, 199, 200}) {
            for (int corn = 0; corn < 3; corn++) {
                Desk x = new Desk().told("price", year, corn, 50);
                for (int y = Math.max(1, year - 9); y <= Math.min(200, year + 9); y++) {
                    x.due(y > year && y <= year + 7 ? 50 : NONE, "average", 1, y, corn);
                }
            }
        }
        Desk row = new Desk();
        int[] pence = {1, 2, 3, 4, 5, 6, 8, 1000};
        for (int year = 1; year <= 8; year++) {
            row.told("price", year, 1, pence[year - 1]);
        }
        row.due(4, "average", 8, 8, 1).due(147, "average", 8, 9, 1).due(171, "average", 8, 10, 1).due(1000, "average", 8, 15, 1);

        Desk.sentence(9, "through how many these are");
        new Desk().told("price", 1, 0, 10).told("price", 7, 0, 20).due(15, "average", 2, 8, 0).due(10, "average", 2, 7, 0)
            .due(20, "average", 2, 9, 0).due(10, "average", 1, 8, 0);

        Desk.sentence(9, "without any there is none.");
        new Desk().due(NONE, "average", 0, 8, 0);
        new Desk().told("price", 1, 0, 10).told("price", 9, 0, 10).due(NONE, "average", 2, 9, 0);
        new Desk().told("price", 5, 1, 10).told("price", 5, 2, 10).due(NONE, "average", 2, 9, 0);
    }

    /** The average of prices told for the years from 1 on. */
    private static void averaged(int want, int... pence) {
        Desk x = new Desk();
        for (int year = 1; year <= pence.length; year++) {
            x.told("price", year, 2, pence[year - 1]);
        }
        x.due(want, "average", pence.length, 8, 2);
    }

    private static void averageRounding() {
        Desk.sentence(9, "to the nearest penny (a half up)");
        averaged(2, 1, 2);
        averaged(1, 1, 1);
        averaged(1, 1, 1, 2);
        averaged(2, 1, 2, 2);
        averaged(1, 1, 1, 1, 2);
        averaged(2, 1, 1, 2, 2);
        averaged(1, 1, 1, 1, 2, 2);
        averaged(2, 1, 1, 2, 2, 2);
        averaged(1, 1, 1, 1, 1, 2, 2);
        averaged(2, 1, 1, 1, 2, 2, 2);
        averaged(1, 1, 1, 1, 1, 2, 2, 2);
        averaged(2, 1, 1, 1, 2, 2, 2, 2);
        averaged(1000, 999, 1000);
        averaged(1000, 1000, 1000, 1000, 1000, 1000, 1000, 1000);
        averaged(1, 1, 1, 1, 1, 1, 1, 1);
    }

    private static void averageLastKnown() {
        Desk.sentence(9, "of several for one CORN and year the last known one counts");
        Desk x = new Desk().told("price", 5, 0, 10).told("price", 5, 0, 20).told("price", 5, 1, 99).told("price", 4, 0, 7);
        x.told("price", 5, 0, 6);
        x.due(10, "average", 1, 8, 0).due(20, "average", 2, 8, 0).due(20, "average", 3, 8, 0);
        x.due(14, "average", 4, 8, 0).due(7, "average", 5, 8, 0).due(99, "average", 5, 8, 1);
        // The one that counts does so in every year that it reaches, and the older one in none.
        x.due(6, "average", 5, 12, 0).due(20, "average", 4, 12, 0).due(NONE, "average", 5, 13, 0);
    }

    private static void lookRanges() {
        Desk.sentence(10, "Of FIELD f in year y (0 to 200) by KNOWING k");
        Desk x = full();
        x.due(NONE, "look", 10, -1, 0, 0).due(NONE, "look", 10, 0, 0, 0).due(NONE, "look", 10, 8, 0, 0);
        x.due(10, "look", 10, 9, 0, 0).due(10, "look", 10, 200, 0, 0).due(NONE, "look", 10, 201, 0, 0);
        x.noneFar(1, "look", 10, 9, 0, 0);
        x.due(NONE, "look", 10, 20, -1, 0).due(NONE, "look", 10, 20, 5, 0).due(NONE, "look", 10, 20, 59, 0);
        x.due(NONE, "look", 10, 20, 60, 0).noneFar(2, "look", 10, 20, 0, 0);
        Desk many = new Desk().made(60).due(2, "look", 60, 8, 59, 0).due(NONE, "look", 60, 8, 60, 0).due(NONE, "look", 60, 7, 59, 0);
        many.due(NONE, "look", 59, 8, 59, 0);

        Desk.sentence(10, "A KNOWING k (0 to how many there are) has the first k ENTRIES.");
        x.due(NONE, "look", -1, 20, 0, 2).due(NONE, "look", 0, 20, 0, 2).due(NONE, "look", 3, 20, 0, 2);
        x.due(1, "look", 4, 20, 0, 2).due(1, "look", 6, 20, 0, 2).due(5, "look", 7, 20, 0, 2).due(5, "look", 10, 20, 0, 2);
        x.due(NONE, "look", 11, 20, 0, 2).noneFar(0, "look", 10, 20, 0, 2);

        Desk.sentence(10, "what 0 AREA, 1 KIND, 2 OWNER, 3, 4, 5 CHARGES, 6 whether it is BOUGHT (1, 0).");
        x.due(NONE, "look", 10, 20, 0, -1).due(NONE, "look", 10, 20, 0, 7).due(NONE, "look", 10, 20, 0, 8);
        x.noneFar(3, "look", 10, 20, 0, 0);
        x.looks(10, 20, 0, 10, 0, 5, 0, 0, 0, 1).looks(10, 20, 4, 10, 0, 1, 5000, 5000, 5000, 0);
        new Desk().prices(7, 100, 50, 10).told("make", 8, 7, 1, 9).told("settle", 8, 30).looks(5, 8, 0, 7, 1, 9, 10, 20, 100, 0);
    }

    private static void lookIsNotThere() {
        Desk.sentence(10, "NONE: it is not there, or no such ones.");
        Desk x = full();
        x.looks(10, 12, 2, NONE).looks(10, 13, 2, 4, 0, 1, 2000, 2000, 2000, 0).looks(10, 14, 2, NONE);
        x.looks(10, 13, 1, NONE).looks(10, 12, 1, 10, 0, 1, 5000, 5000, 5000, 0).looks(10, 13, 4, NONE);
        // Not known yet, though that year has come; and known, but not ended as far as is known.
        x.looks(8, 13, 2, NONE).looks(8, 13, 1, 10, 0, 1, 5000, 5000, 5000, 0).looks(9, 14, 2, 4, 0, 1, 2000, 2000, 2000, 0);
    }

    private static void lookInAYear() {
        Desk.sentence(10, "as things are when the ACTS of KNOWING k whose YEAR is not above y are done");
        Desk x = full();
        x.looks(10, 8, 0, NONE).looks(10, 9, 0, 10, 0, 1, 0, 0, 0, 0).looks(10, 10, 0, 10, 0, 1, 5000, 5000, 5000, 0);
        x.looks(10, 11, 0, 10, 0, 5, 5000, 5000, 5000, 0).looks(10, 12, 0, 10, 0, 5, 0, 0, 0, 1);
        x.looks(10, 13, 3, 6, 0, 1, 3000, 3000, 3000, 0).looks(10, 14, 3, NONE).looks(10, 14, 4, 10, 0, 1, 5000, 5000, 5000, 0);
        Desk last = new Desk().told("make", 200, 3, 0, 0).due(3, "look", 1, 200, 0, 0).due(NONE, "look", 1, 199, 0, 0);
        last.told("sell", 200, 0, 4).due(4, "look", 2, 200, 0, 2).due(0, "look", 1, 200, 0, 2);
    }

    private static void moneyRanges() {
        Desk.sentence(11, "MONEY of FIELD f in year y (1 to 200) by KNOWING k");
        Desk x = full();
        x.due(NONE, "money", 10, -1, 0).due(NONE, "money", 10, 0, 0).due(NONE, "money", 10, 1, 0).due(150, "money", 10, 10, 0);
        x.noneFar(1, "money", 10, 10, 0);
        Desk late = priced();
        late.due(900, "money", 8, 200, 0).due(NONE, "money", 8, 201, 0).due(300, "money", 8, 8, 0);
        x.due(NONE, "money", 10, 10, -1).due(NONE, "money", 10, 10, 2).due(NONE, "money", 10, 14, 5).due(NONE, "money", 10, 14, 60);
        x.noneFar(2, "money", 10, 10, 0);

        Desk.sentence(11, "A KNOWING k (0 to how many there are) has the first k ENTRIES.");
        x.due(NONE, "money", -1, 10, 0).due(NONE, "money", 0, 10, 0).due(NONE, "money", 3, 10, 0).due(0, "money", 5, 10, 0);
        x.due(150, "money", 6, 12, 0).due(0, "money", 8, 12, 0).due(0, "money", 10, 12, 0).due(NONE, "money", 11, 10, 0);
        x.noneFar(0, "money", 10, 10, 0);

        Desk.sentence(11, "NONE: it is not there, no such ones, or there is none.");
        x.due(NONE, "money", 10, 8, 0).due(0, "money", 10, 9, 0).due(150, "money", 10, 12, 1).due(NONE, "money", 10, 13, 1);
        x.due(60, "money", 10, 13, 2).due(90, "money", 10, 13, 3).due(NONE, "money", 10, 14, 3).due(150, "money", 10, 14, 4);
        x.due(NONE, "money", 10, 15, 4);
    }

    private static void moneyRounding() {
        Desk.sentence(11, "/ 100, to the nearest penny (a half up)");
        // Charges 2, 1, 1; the averages of year 15 alone change.
        for (int oats = 1; oats <= 7; oats++) {
            Desk x = new Desk().prices(7, 100, 100, 100).told("make", 8, 1, 0, 0).told("settle", 8, 4).prices(14, 15, 15, oats);
            x.charges(8, 15, 0, 2, 1, 1).due(oats < 5 ? 0 : 1, "money", 8, 15, 0);
        }
        for (int wheat = 72; wheat <= 77; wheat++) {
            Desk x = new Desk().prices(7, 100, 100, 100).told("make", 8, 1, 0, 0).told("settle", 8, 1).prices(14, wheat, 1000, 1000);
            x.charges(8, 15, 0, 1, 0, 0).due(1, "money", 8, 15, 0);
        }
        for (int wheat = 48; wheat <= 51; wheat++) {
            Desk x = new Desk().prices(7, 100, 100, 100).told("make", 8, 1, 0, 0).told("settle", 8, 1).prices(14, wheat, 1000, 1000);
            x.due(wheat < 50 ? 0 : 1, "money", 8, 15, 0);
        }

        Desk.sentence(11, "the sum over CORNS of its CHARGE times THE AVERAGE for y (as known)");
        Desk y = new Desk().prices(7, 10, 20, 50).told("make", 8, 1, 0, 0).told("settle", 8, 300).prices(8, 30, 40, 70);
        y.charges(8, 8, 0, 1000, 500, 200).due(300, "money", 8, 8, 0).due(200 + 150 + 120, "money", 8, 9, 0);
        y.due(300 + 200 + 140, "money", 8, 15, 0).due(300, "money", 5, 9, 0).due(NONE, "money", 5, 15, 0);
        y.due(400, "money", 6, 9, 0).due(450, "money", 7, 9, 0);
        // Far above an int: 33333400 + 33333300 + 33333300 hundredths at 1000 pence.
        Desk great = new Desk().prices(1, 1, 1, 1).told("make", 8, 10000, 0, 0).told("settle", 8, 1000000).prices(8, 1000, 1000, 1000);
        great.due(1000000000L, "money", 8, 9, 0);
    }

    private static void moneyWanting() {
        Desk.sentence(11, "there is none if an AVERAGE is wanting");
        for (int corn = 0; corn < 3; corn++) {
            Desk x = new Desk().prices(7, 1, 1, 1).told("make", 8, 1, 0, 0).told("settle", 8, 3);
            for (int other = 0; other < 3; other++) {
                if (other != corn) {
                    x.told("price", 14, other, 5);
                }
            }
            x.due(NONE, "money", 7, 15, 0).due(NONE, "owed", 7, 15, 0).told("price", 14, corn, 5);
            x.due(15, "money", 8, 15, 0).due(NONE, "money", 7, 15, 0);
        }
        // A field without charge has no money either then, be it not settled or bought.
        Desk y = new Desk().told("make", 8, 1, 0, 0).due(NONE, "money", 1, 8, 0).prices(7, 1, 1, 1).due(0, "money", 4, 8, 0);
        y.due(NONE, "money", 3, 8, 0).told("settle", 8, 3).told("buy", 9, 0);
        y.due(0, "money", 6, 9, 0).due(0, "money", 6, 14, 0).due(NONE, "money", 6, 15, 0);
    }

    private static void owedRanges() {
        Desk.sentence(12, "in year y by KNOWING k: the MONEY of all their FIELDS");
        Desk x = full();
        x.due(NONE, "owed", 10, -1, 1).due(NONE, "owed", 10, 0, 1).due(0, "owed", 10, 1, 1).due(0, "owed", 10, 8, 1);
        x.due(0, "owed", 10, 9, 1).due(300, "owed", 10, 10, 1).due(150, "owed", 10, 11, 1).due(150, "owed", 10, 11, 5);
        x.due(0, "owed", 10, 12, 5).due(150, "owed", 10, 13, 1).due(150, "owed", 10, 14, 1).noneFar(1, "owed", 10, 10, 1);
        Desk late = priced();
        late.due(900, "owed", 8, 200, 0).due(NONE, "owed", 8, 201, 0).due(NONE, "owed", 8, 201, 4).due(0, "owed", 8, 200, 4);

        Desk.sentence(12, "A KNOWING k (0 to how many there are) has the first k ENTRIES.");
        x.due(NONE, "owed", -1, 10, 1).due(0, "owed", 0, 10, 1).due(0, "owed", 5, 10, 1).due(300, "owed", 6, 11, 1);
        x.due(150, "owed", 7, 11, 1).due(150, "owed", 10, 11, 1).due(NONE, "owed", 11, 11, 1).noneFar(0, "owed", 10, 10, 1);
        // Fields are known, but no prices.
        new Desk().told("make", 8, 1, 0, 1).prices(7, 1, 1, 1).due(0, "owed", 0, 8, 1).due(NONE, "owed", 1, 8, 1)
            .due(NONE, "owed", 3, 8, 1).due(0, "owed", 4, 8, 1);
    }

    private static void owedOwners() {
        Desk.sentence(12, "What an OWNER (0 to 9; NONE: all) owes");
        Desk x = new Desk().prices(7, 1, 1, 1);
        for (int owner = 0; owner < 10; owner++) {
            x.told("make", 8, 1 + owner, 2, owner);
        }
        x.told("settle", 8, 5500);
        for (int owner = 0; owner < 10; owner++) {
            x.due(100 * (1 + owner), "owed", 14, 8, owner);
        }
        x.due(5500, "owed", 14, 8, NONE).due(NONE, "owed", 14, 8, -2).due(NONE, "owed", 14, 8, 10).due(NONE, "owed", 14, 8, 11);
        x.noneFar(2, "owed", 14, 8, 0);

        Desk.sentence(12, "NONE: no such ones, or one of these has none.");
        x.due(NONE, "owed", 14, 15, 0).due(NONE, "owed", 14, 15, 9).due(NONE, "owed", 14, 15, NONE).due(0, "owed", 14, 7, NONE);
        Desk y = full();
        y.due(NONE, "owed", 10, 15, 1).due(NONE, "owed", 10, 15, 5).due(NONE, "owed", 10, 15, NONE);
        for (int owner : new int[] {0, 2, 9}) {
            y.due(0, "owed", 10, 15, owner).due(0, "owed", 10, 14, owner);
        }

        Desk.sentence(12, "the MONEY of all their FIELDS");
        // Two fields of half a penny each: each is rounded by itself.
        Desk z = new Desk().prices(7, 100, 100, 100).told("make", 8, 1, 0, 3).told("make", 8, 1, 0, 3).told("settle", 8, 2);
        z.prices(14, 50, 50, 50).due(1, "money", 9, 15, 0).due(1, "money", 9, 15, 1).due(2, "owed", 9, 15, 3).due(2, "owed", 9, 15, NONE);
        z.told("price", 14, 0, 49).due(0, "owed", 10, 15, 3).due(2, "owed", 9, 15, 3);
        // Together far above an int.
        Desk great = new Desk().prices(1, 1, 1, 1).made(60).told("settle", 8, 1000000).prices(8, 1000, 1000, 1000);
        great.due(1000000000L, "owed", 67, 9, NONE).due(1000000000L, "owed", 67, 9, 0).due(0, "owed", 67, 9, 1);
    }

    private static void parishRanges() {
        Desk.sentence(13, "In year y (0 to 200) by KNOWING k");
        Desk x = full();
        x.due(NONE, "parish", 10, -1, 0).due(0, "parish", 10, 0, 0).due(0, "parish", 10, 8, 0).due(2, "parish", 10, 9, 0);
        x.due(2, "parish", 10, 200, 0).due(NONE, "parish", 10, 201, 0).noneFar(1, "parish", 10, 9, 0);
        for (int what = 0; what < 7; what++) {
            x.due(0, "parish", 10, 0, what).due(NONE, "parish", 10, 201, what).due(NONE, "parish", 10, -1, what);
        }

        Desk.sentence(13, "A KNOWING k (0 to how many there are) has the first k ENTRIES.");
        x.due(NONE, "parish", -1, 200, 0).due(0, "parish", 0, 200, 0).due(0, "parish", 3, 200, 0).due(1, "parish", 4, 200, 0);
        x.due(2, "parish", 8, 200, 0).due(3, "parish", 9, 200, 0).due(2, "parish", 10, 200, 0).due(NONE, "parish", 11, 200, 0);
        x.due(0, "parish", 5, 200, 6).due(1, "parish", 6, 200, 6).due(0, "parish", 7, 200, 5).due(1, "parish", 8, 200, 5);
        x.noneFar(0, "parish", 10, 200, 0);

        Desk.sentence(13, "NONE for others.");
        x.due(NONE, "parish", 10, 200, -1).due(NONE, "parish", 10, 200, 7).noneFar(2, "parish", 10, 200, 0);
    }

    private static void parishes(Desk x, int k, int y, int... want) {
        for (int what = 0; what < 7; what++) {
            x.due(want[what], "parish", k, y, what);
        }
    }

    private static void parishSums() {
        Desk.sentence(13, "what 0 FIELDS that are there, 1 their AREAS, 2, 3, 4 CHARGES together, 5 BOUGHT ones, 6 whether SETTLE was done.");
        Desk x = new Desk().prices(7, 10, 20, 50).told("make", 8, 7, 0, 1).told("make", 9, 3, 0, 1).told("settle", 10, 300);
        x.told("buy", 11, 1).told("part", 12, 1, 1).told("make", 13, 10000, 2, 0);
        parishes(x, 9, 7, 0, 0, 0, 0, 0, 0, 0);
        parishes(x, 9, 8, 1, 7, 0, 0, 0, 0, 0);
        parishes(x, 9, 9, 2, 10, 0, 0, 0, 0, 0);
        parishes(x, 9, 10, 2, 10, 1000, 500, 200, 0, 1);
        parishes(x, 9, 11, 2, 10, 700, 350, 140, 1, 1);
        parishes(x, 9, 12, 3, 10, 700, 350, 140, 2, 1);
        parishes(x, 9, 13, 4, 10010, 700, 350, 140, 2, 1);
        parishes(x, 8, 200, 3, 10, 700, 350, 140, 2, 1);
        Desk many = new Desk();
        for (int f = 0; f < 60; f++) {
            many.told("make", 8, 10000, 0, 0);
        }
        parishes(many, 60, 8, 60, 600000, 0, 0, 0, 0, 0);
    }

    private static void costRanges() {
        Desk.sentence(14, "THE COST of the BUY that ENTRY e is, by KNOWING k (above e)");
        Desk x = full();
        x.due(NONE, "cost", 7, 7).due(25 * 150, "cost", 8, 7).due(25 * 150, "cost", 10, 7).due(NONE, "cost", 11, 7);
        x.due(NONE, "cost", 0, 7).due(NONE, "cost", 6, 7).due(NONE, "cost", -1, 7).noneFar(0, "cost", 10, 7);
        for (int e = -2; e < 83; e++) {
            if (e != 7) {
                x.due(NONE, "cost", 10, e);
            }
        }
        x.noneFar(1, "cost", 10, 7).due(NONE, "cost", -1, -1).due(NONE, "cost", 0, 0).due(NONE, "cost", 0, -1);

        Desk.sentence(14, "NONE: no such ones, or there is no MONEY.");
        for (int corn = 0; corn < 3; corn++) {
            Desk y = new Desk().prices(7, 1, 1, 1).told("make", 8, 1, 0, 0).told("settle", 8, 3).told("buy", 15, 0);
            y.due(NONE, "cost", 6, 5);
            for (int other = 0; other < 3; other++) {
                if (other != corn) {
                    y.told("price", 14, other, 5);
                }
            }
            y.due(NONE, "cost", 8, 5).told("price", 8, corn, 5).due(25 * 15, "cost", 9, 5).due(NONE, "cost", 8, 5);
        }
        // The average for year 15 has the years from 8 on, not 7, nor 15 itself.
        Desk z = new Desk().prices(7, 1, 1, 1).told("make", 8, 1, 0, 0).told("settle", 8, 3).told("buy", 15, 0).prices(15, 9, 9, 9);
        z.due(NONE, "cost", 9, 5);
    }

    private static void costAheadOfTheBuy() {
        Desk.sentence(14, "25 times the MONEY that the FIELD would have in that YEAR without it");
        // A field without charge; and one of half a penny, which is rounded first.
        new Desk().prices(7, 1, 1, 1).told("make", 8, 1, 0, 0).told("settle", 8, 3).told("make", 8, 1, 0, 0).told("buy", 8, 1)
            .due(0, "cost", 7, 6);
        Desk half = new Desk().prices(7, 100, 100, 100).told("make", 8, 1, 0, 3).told("settle", 8, 1).prices(14, 50, 50, 50);
        half.told("buy", 15, 0).due(25, "cost", 9, 8).told("price", 14, 0, 49).due(0, "cost", 10, 8).due(25, "cost", 9, 8);
        Desk great = new Desk().prices(1, 1, 1, 1).told("make", 8, 10000, 0, 0).told("settle", 8, 1000000).prices(8, 1000, 1000, 1000);
        great.told("buy", 9, 0).due(25000000000L, "cost", 9, 8);

        Desk.sentence(14, "(all done ahead of it), as known");
        // A joining of that year ahead of it counts; a parting of that year behind it ends the field only then.
        Desk x = new Desk().prices(7, 1, 1, 1).told("make", 8, 1, 0, 0).told("make", 8, 1, 0, 0).told("settle", 8, 6);
        x.told("join", 9, 0, 1).told("buy", 9, 2).told("part", 9, 2, 1).due(25 * 6, "cost", 8, 7).due(25 * 6, "cost", 9, 7);
        // Two of one year: the other one's purchase changes nothing, be it ahead or behind.
        Desk y = new Desk().prices(7, 1, 1, 1).told("make", 8, 1, 0, 0).told("make", 8, 1, 0, 0).told("settle", 8, 6);
        y.told("buy", 8, 1).told("buy", 8, 0).due(75, "cost", 8, 6).due(75, "cost", 8, 7).due(NONE, "cost", 7, 7).due(75, "cost", 7, 6);
        // An act that is told later, of an earlier year: a third field that has a share.
        y.due(2, "make", 8, 4, 0, 0).due(75, "cost", 9, 6);
        Desk z = new Desk().prices(7, 1, 1, 1).told("make", 9, 1, 0, 0).told("settle", 9, 6).told("buy", 9, 0);
        z.due(150, "cost", 6, 5).told("make", 8, 1, 0, 0).due(75, "cost", 7, 5).due(150, "cost", 6, 5);
        z.told("sell", 9, 0, 4).told("sell", 8, 1, 4).due(75, "cost", 9, 5);
        // A dearer wheat, told later: it takes a smaller charge, and counts for more.
        z.told("price", 7, 0, 2).charges(10, 9, 1, 50, 100, 100).due(75, "cost", 10, 5).due(150, "cost", 6, 5);
        z.told("price", 7, 1, 200).charges(11, 9, 1, 50, 1, 100).due(100, "cost", 11, 5).due(75, "cost", 10, 5);
    }

    private static void fieldRanges() {
        Desk.sentence(15, "Of FIELD f (whatever is known)");
        Desk x = full();
        for (int what = -1; what < 7; what++) {
            x.due(NONE, "field", -1, what).due(NONE, "field", 5, what).due(NONE, "field", 59, what).due(NONE, "field", 60, what);
        }
        x.noneFar(0, "field", 0, 0);
        Desk many = new Desk().made(60).due(59, "field", 59, 2).due(NONE, "field", 60, 2).due(8, "field", 59, 0);
        many.told("sell", 9, 59, 3).due(NONE, "field", 59, 3).due(NONE, "field", 59, 1);
        // A refused parting ends nothing.
        x.due(NONE, "part", 13, 4, 1).due(NONE, "part", 14, 4, 10).due(NONE, "field", 4, 1).due(NONE, "field", 4, 3);
        x.due(NONE, "join", 20, 0, 4).due(NONE, "field", 0, 1).due(NONE, "field", 0, 3);

        Desk.sentence(15, "NONE for others.");
        for (int f = 0; f < 5; f++) {
            x.due(NONE, "field", f, -1).due(NONE, "field", f, 6).noneFar(1, "field", f, 0);
        }
    }

    private static void fields(Desk x, int f, int... want) {
        for (int what = 0; what < 6; what++) {
            x.due(want[what], "field", f, what);
        }
    }

    private static void fieldWhats() {
        Desk.sentence(15, "what 0 the YEAR in which it BEGINS, 1 ENDS (NONE), 2 the ENTRY that made it, 3 that ended it (NONE), 4, 5 FIELDS that it was made of (NONE).");
        Desk x = full();
        fields(x, 0, 9, NONE, 3, NONE, NONE, NONE);
        fields(x, 1, 9, 13, 4, 8, NONE, NONE);
        fields(x, 2, 13, 14, 8, 9, 1, NONE);
        fields(x, 3, 13, 14, 8, 9, 1, NONE);
        fields(x, 4, 14, NONE, 9, NONE, 3, 2);

        Desk.sentence(15, "A FIELD BEGINS in the YEAR of the ACT that made it, and ENDS in that of the PART or JOIN.");
        Desk y = new Desk().told("make", 200, 2, 0, 0).told("make", 8, 2, 0, 0).told("part", 200, 0, 1).told("part", 8, 1, 1);
        fields(y, 0, 200, 200, 0, 2, NONE, NONE);
        fields(y, 1, 8, 8, 1, 3, NONE, NONE);
        fields(y, 2, 200, NONE, 2, NONE, 0, NONE);
        fields(y, 5, 8, NONE, 3, NONE, 1, NONE);
        y.told("join", 200, 2, 4);
        fields(y, 2, 200, 200, 2, 4, 0, NONE);
        fields(y, 4, 8, 200, 3, 4, 1, NONE);
        fields(y, 6, 200, NONE, 4, NONE, 2, 4);
    }

    private static void differRanges() {
        Desk.sentence(16, "that two KNOWINGS tell otherwise in year y (0 to 200)");
        Desk x = full();
        x.due(NONE, "differ", 4, 5, -1, 0).due(NONE, "differ", 4, 5, 0, 0).due(NONE, "differ", 4, 5, 8, 0).due(1, "differ", 4, 5, 9, 0);
        x.due(1, "differ", 4, 5, 200, 0).due(NONE, "differ", 4, 5, 201, 0).noneFar(2, "differ", 4, 5, 9, 0);

        Desk.sentence(16, "A KNOWING k (0 to how many there are) has the first k ENTRIES.");
        x.due(NONE, "differ", -1, 10, 9, 0).due(NONE, "differ", 10, -1, 9, 0).due(0, "differ", 0, 10, 9, 0).due(0, "differ", 10, 0, 9, 0);
        x.due(NONE, "differ", 11, 0, 9, 0).due(NONE, "differ", 0, 11, 9, 0).due(NONE, "differ", 11, 11, 9, 0);
        x.noneFar(0, "differ", 0, 10, 9, 0).noneFar(1, "differ", 0, 10, 9, 0);

        Desk.sentence(16, "The i-th FIELD, by number");
        x.due(0, "differ", 3, 10, 200, 0).due(4, "differ", 3, 10, 200, 1).due(NONE, "differ", 3, 10, 200, 2);
        x.due(NONE, "differ", 3, 10, 200, -1).noneFar(3, "differ", 3, 10, 200, 0);
        x.due(1, "differ", 8, 9, 13, 0).due(2, "differ", 8, 9, 13, 1).due(3, "differ", 8, 9, 13, 2).due(NONE, "differ", 8, 9, 13, 3);
        Desk many = new Desk().made(60);
        for (int i = 0; i < 60; i++) {
            many.due(i, "differ", 0, 60, 8, i);
        }
        many.due(NONE, "differ", 0, 60, 8, 60).due(NONE, "differ", 0, 60, 7, 0).due(59, "differ", 59, 60, 8, 0);

        Desk.sentence(16, "NONE: there is none such.");
        for (int k = 0; k <= 10; k++) {
            x.due(NONE, "differ", k, k, 200, 0);
        }
        x.due(NONE, "differ", 0, 3, 200, 0);
    }

    /** Two knowings that follow on one another: just the one field differs, whichever is asked first. */
    private static void differsAlone(Desk x, int k, int y, int f) {
        x.due(f, "differ", k, k + 1, y, 0).due(f, "differ", k + 1, k, y, 0).due(NONE, "differ", k, k + 1, y, 1);
    }

    private static void differWays() {
        Desk.sentence(16, "it is there by one alone");
        Desk x = full();
        differsAlone(x, 3, 9, 0);
        x.due(0, "differ", 3, 5, 9, 0).due(1, "differ", 5, 3, 9, 1);
        x.due(2, "differ", 9, 10, 14, 0).due(3, "differ", 9, 10, 14, 1).due(4, "differ", 10, 9, 14, 2).due(NONE, "differ", 9, 10, 13, 0);

        Desk.sentence(16, "or one of look()'s seven differs");
        differsAlone(x, 6, 11, 0);
        x.due(NONE, "differ", 6, 7, 10, 0);
        differsAlone(x, 7, 12, 0);
        x.due(0, "differ", 5, 6, 10, 0).due(1, "differ", 5, 6, 10, 1).due(NONE, "differ", 5, 6, 9, 0);
        // Each corn's charge alone, by a later price; and another price of the same average changes none.
        for (int corn = 0; corn < 3; corn++) {
            Desk y = new Desk().prices(7, 1, 1, 1).told("make", 8, 1, 0, 0).told("settle", 9, 3).told("price", 7, corn, 2);
            differsAlone(y, 5, 9, 0);
            y.due(NONE, "differ", 5, 6, 8, 0).told("price", 6, corn, 2).due(NONE, "differ", 6, 7, 9, 0);
        }
        // Bought alone: the field has no charge that could differ.
        Desk z = new Desk().prices(7, 1, 1, 1).told("make", 8, 1, 0, 0).told("settle", 8, 3).told("make", 9, 1, 0, 0).told("buy", 9, 1);
        differsAlone(z, 6, 9, 1);
        // An owner alone, as one known later sold it in between.
        Desk w = new Desk().told("make", 8, 1, 0, 0).told("sell", 12, 0, 3).told("sell", 10, 0, 4);
        differsAlone(w, 2, 11, 0);
        w.due(NONE, "differ", 2, 3, 12, 0).due(NONE, "differ", 2, 3, 9, 0);
    }

    private static void entryRanges() {
        Desk.sentence(17, "ENTRIES 0 to 79, in the order in which they were told");
        Desk x = full();
        x.due(NONE, "entry", -1, 0).due(0, "entry", 0, 0).due(3, "entry", 9, 0).due(NONE, "entry", 10, 0).noneFar(0, "entry", 0, 0);
        x.due(NONE, "buy", 14, 0).due(NONE, "entry", 10, 0).due(NONE, "entry", 10, 1);
        Desk all = new Desk().filled(80).due(0, "entry", 79, 0).due(200, "entry", 79, 1).due(NONE, "entry", 80, 0).due(NONE, "entry", 80, 1);
        all.due(NONE, "make", 8, 1, 0, 0).due(NONE, "entry", 80, 0);
        new Desk().filled(79).told("make", 8, 1, 0, 0).due(1, "entry", 79, 0).due(8, "entry", 79, 1).due(0, "entry", 79, 3);
        // By their telling, not by years.
        new Desk().told("make", 20, 1, 0, 0).told("make", 10, 1, 0, 0).due(20, "entry", 0, 1).due(10, "entry", 1, 1);

        Desk.sentence(17, "NONE for others.");
        for (int e = 0; e < 10; e++) {
            x.due(NONE, "entry", e, -1).due(NONE, "entry", e, 4).noneFar(1, "entry", e, 0);
        }
    }

    private static void entries(Desk x, int e, int... want) {
        for (int what = 0; what < 4; what++) {
            x.due(want[what], "entry", e, what);
        }
    }

    private static void entryWhats() {
        Desk.sentence(17, "what 0: 0 PRICE, 1 MAKE, 2 PART, 3 JOIN, 4 SELL, 5 SETTLE, 6 BUY; 1 its year");
        Desk x = full();
        entries(x, 3, 1, 9, NONE, 0);
        entries(x, 8, 2, 13, 1, 2);
        entries(x, 9, 3, 14, 3, 4);
        entries(x, 6, 4, 11, 0, NONE);
        entries(x, 5, 5, 10, NONE, NONE);
        entries(x, 7, 6, 12, 0, NONE);

        Desk.sentence(17, "2 the first FIELD that it names (PRICE: the CORN; MAKE, SETTLE: NONE)");
        entries(x, 0, 0, 7, 0, NONE);
        entries(x, 1, 0, 7, 1, NONE);
        entries(x, 2, 0, 7, 2, NONE);
        entries(x, 4, 1, 9, NONE, 1);

        Desk.sentence(17, "3 the FIELD that it made (PART: the first; NONE).");
        Desk y = new Desk().told("price", 1, 1, 9).told("price", 200, 2, 9).told("make", 200, 5, 2, 9).told("make", 8, 5, 0, 0);
        y.told("part", 200, 0, 2).told("join", 200, 2, 3);
        entries(y, 0, 0, 1, 1, NONE);
        entries(y, 1, 0, 200, 2, NONE);
        entries(y, 2, 1, 200, NONE, 0);
        entries(y, 3, 1, 8, NONE, 1);
        entries(y, 4, 2, 200, 0, 2);
        entries(y, 5, 3, 200, 2, 4);
    }

    private static void count() {
        Desk.sentence(18, "0 ENTRIES, 1 FIELDS. NONE for others.");
        Desk x = new Desk().due(0, "count", 0).due(0, "count", 1).due(NONE, "count", -1).due(NONE, "count", 2).noneFar(0, "count", 0);
        x.told("price", 1, 0, 1).due(1, "count", 0).due(0, "count", 1).told("make", 8, 5, 0, 0).due(2, "count", 0).due(1, "count", 1);
        x.told("part", 8, 0, 2).due(3, "count", 0).due(3, "count", 1).told("join", 8, 1, 2).due(4, "count", 0).due(4, "count", 1);
        x.told("sell", 8, 3, 2).due(5, "count", 0).due(4, "count", 1).due(NONE, "sell", 8, 3, 2).due(5, "count", 0);
        x.due(NONE, "part", 8, 3, 5).due(NONE, "make", 8, 0, 0, 0).due(NONE, "price", 0, 0, 0).due(5, "count", 0).due(4, "count", 1);
        full().due(10, "count", 0).due(5, "count", 1).due(NONE, "count", 2).due(NONE, "count", -1);
        new Desk().filled(80).due(80, "count", 0).due(NONE, "price", 1, 0, 1).due(80, "count", 0);
        new Desk().made(60).due(60, "count", 1).due(NONE, "make", 8, 1, 0, 0).due(60, "count", 1).due(60, "count", 0);
    }

    private static void refusedQuestion(int promise, String name, int... a) {
        Desk.sentence(promise, "A call that is refused (NONE, false) changes nothing.");
        Desk.refused(QuestionEdgesTest::full, name, a);
        for (int place = 0; place < a.length; place++) {
            Desk.refusedFar(QuestionEdgesTest::full, place, name, a);
        }
    }

    private static void refusedQuestionsChangeNothing() {
        refusedQuestion(9, "average", 11, 8, 0);
        refusedQuestion(10, "look", 11, 9, 0, 0);
        refusedQuestion(11, "money", 11, 9, 0);
        refusedQuestion(12, "owed", 11, 9, 1);
        refusedQuestion(13, "parish", 11, 9, 0);
        refusedQuestion(14, "cost", 7, 7);
        refusedQuestion(15, "field", 5, 0);
        refusedQuestion(16, "differ", 0, 11, 9, 0);
        refusedQuestion(17, "entry", 10, 0);
        refusedQuestion(18, "count", 2);
    }

    private static void answersChangeNothing() {
        Desk.sentence(10, "so that each question is asked in two times: what held in a year, as it was known behind so many entries");
        Desk.unchanged(QuestionEdgesTest::full, 1, "average", 3, 8, 0);
        Desk.unchanged(QuestionEdgesTest::full, 5000, "look", 6, 10, 0, 3);
        Desk.unchanged(QuestionEdgesTest::full, 150, "money", 6, 10, 0);
        Desk.unchanged(QuestionEdgesTest::full, 300, "owed", 6, 10, NONE);
        Desk.unchanged(QuestionEdgesTest::full, 0, "parish", 0, 0, 6);
        Desk.unchanged(QuestionEdgesTest::full, 3750, "cost", 8, 7);
        Desk.unchanged(QuestionEdgesTest::full, 9, "field", 0, 0);
        Desk.unchanged(QuestionEdgesTest::full, 1, "differ", 5, 0, 9, 1);
        Desk.unchanged(QuestionEdgesTest::full, 6, "entry", 7, 0);
        Desk.unchanged(QuestionEdgesTest::full, 10, "count", 0);
    }

    /** The 80th entry is a purchase, the 79th a settling. */
    private static void allEntriesKnown() {
        Desk x = new Desk().prices(7, 1, 1, 1).told("make", 8, 10, 0, 1).filled(78).told("settle", 9, 300).told("buy", 11, 0);
        Desk.sentence(10, "A KNOWING k (0 to how many there are)");
        x.looks(80, 11, 0, 10, 0, 1, 0, 0, 0, 1).looks(79, 11, 0, 10, 0, 1, 10000, 10000, 10000, 0).looks(81, 11, 0, NONE);
        Desk.sentence(11, "A KNOWING k (0 to how many there are)");
        x.due(0, "money", 80, 11, 0).due(300, "money", 79, 11, 0).due(0, "money", 78, 11, 0).due(NONE, "money", 81, 11, 0);
        Desk.sentence(12, "A KNOWING k (0 to how many there are)");
        x.due(0, "owed", 80, 11, 1).due(300, "owed", 79, 11, 1).due(NONE, "owed", 81, 11, 1);
        Desk.sentence(13, "A KNOWING k (0 to how many there are)");
        x.due(1, "parish", 80, 11, 5).due(0, "parish", 79, 11, 5).due(0, "parish", 78, 11, 6).due(NONE, "parish", 81, 11, 5);
        Desk.sentence(14, "A KNOWING k (0 to how many there are)");
        x.due(7500, "cost", 80, 79).due(NONE, "cost", 79, 79).due(NONE, "cost", 81, 79).due(NONE, "cost", 80, 80).due(NONE, "cost", 81, 80);
        Desk.sentence(16, "A KNOWING k (0 to how many there are)");
        differsAlone(x, 79, 11, 0);
        differsAlone(x, 78, 9, 0);
        x.due(NONE, "differ", 80, 81, 11, 0).due(NONE, "differ", 81, 80, 11, 0);
        Desk.sentence(17, "ENTRIES 0 to 79");
        entries(x, 79, 6, 11, 0, NONE);
        entries(x, 78, 5, 9, NONE, NONE);
        entries(x, 80, NONE, NONE, NONE, NONE);
    }
}
