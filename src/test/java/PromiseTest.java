/** Each promise of the document by itself: what is ordinary, the edges that it names, and wrong inputs. */
public final class PromiseTest {
    private static final int NONE = TitheMap.NONE;
    private static int wrong = 0;
    private static String promise = "";

    public static void main(String[] args) {
        promise1New();
        promise2Price();
        promise3Make();
        promise3MakeFull();
        promise4Part();
        promise4PartFull();
        promise5Join();
        promise5JoinFull();
        promise6Sell();
        promise7SettleShares();
        promise7SettleCharges();
        promise7SettleRefused();
        promises6To8WithAllFields();
        promise8Buy();
        promise9Average();
        promise10Look();
        promise11Money();
        promise12Owed();
        promise13Parish();
        promise14Cost();
        promise15Field();
        promise16Differ();
        promise17Entry();
        promise18Count();
        System.out.println(wrong == 0 ? "all promises hold" : wrong + " answers are not as promised");
        if (wrong != 0) {
            System.exit(1);
        }
    }

    private static void due(String what, long got, long want) {
        if (got != want) {
            wrong++;
            System.out.println("promise " + promise + ": " + what + " answered " + got + ", due is " + want);
        }
    }

    /** Prices for all corns in one year: entries n, n + 1, n + 2. */
    private static void prices(TitheMap x, int year, int wheat, int barley, int oats) {
        x.price(year, 0, wheat);
        x.price(year, 1, barley);
        x.price(year, 2, oats);
    }

    private static void looks(TitheMap x, int k, int y, int f, int... want) {
        for (int what = 0; what < want.length; what++) {
            due("look(" + k + ", " + y + ", " + f + ", " + what + ")", x.look(k, y, f, what), want[what]);
        }
    }

    private static void promise1New() {
        promise = "1";
        TitheMap x = new TitheMap();
        due("count(0)", x.count(0), 0);
        due("count(1)", x.count(1), 0);
        due("parish(0, 200, 0)", x.parish(0, 200, 0), 0);
        due("entry(0, 0)", x.entry(0, 0), NONE);
        TitheMap other = new TitheMap();
        x.make(8, 1, 0, 0);
        due("another map's count(0)", other.count(0), 0);
    }

    private static void promise2Price() {
        promise = "2";
        TitheMap x = new TitheMap();
        due("year 0", x.price(0, 0, 1), NONE);
        due("year 201", x.price(201, 0, 1), NONE);
        due("corn -1", x.price(1, -1, 1), NONE);
        due("corn 3", x.price(1, 3, 1), NONE);
        due("pence 0", x.price(1, 0, 0), NONE);
        due("pence 1001", x.price(1, 0, 1001), NONE);
        due("count(0)", x.count(0), 0);
        due("least", x.price(1, 0, 1), 0);
        due("greatest", x.price(200, 2, 1000), 1);
        due("barley", x.price(1, 1, 1), 2);
        for (int e = 3; e < 80; e++) {
            due("price " + e, x.price(5, 0, e), e);
        }
        due("the 81st", x.price(5, 0, 999), NONE);
        due("average", x.average(80, 8, 0), 40);
        due("count(0)", x.count(0), 80);
    }

    private static void promise3Make() {
        promise = "3";
        TitheMap x = new TitheMap();
        due("year 7", x.make(7, 1, 0, 0), NONE);
        due("year 201", x.make(201, 1, 0, 0), NONE);
        due("area 0", x.make(8, 0, 0, 0), NONE);
        due("area 10001", x.make(8, 10001, 0, 0), NONE);
        due("kind -1", x.make(8, 1, -1, 0), NONE);
        due("kind 3", x.make(8, 1, 3, 0), NONE);
        due("owner -1", x.make(8, 1, 0, -1), NONE);
        due("owner 10", x.make(8, 1, 0, 10), NONE);
        due("count(1)", x.count(1), 0);
        due("latest", x.make(200, 10000, 2, 9), 0);
        due("price between", x.price(1, 0, 1), 1);
        due("earliest", x.make(8, 1, 0, 0), 1);
        looks(x, 3, 200, 0, 10000, 2, 9, 0, 0, 0, 0);
        looks(x, 3, 8, 1, 1, 0, 0, 0, 0, 0, 0);
    }

    private static void promise3MakeFull() {
        promise = "3";
        TitheMap x = new TitheMap();
        for (int f = 0; f < 60; f++) {
            due("make " + f, x.make(8, 1, 0, 0), f);
        }
        due("the 61st field", x.make(8, 1, 0, 0), NONE);
        due("count(0)", x.count(0), 60);
        TitheMap y = new TitheMap();
        for (int e = 0; e < 80; e++) {
            y.price(1, 0, 1);
        }
        due("an 81st entry", y.make(8, 1, 0, 0), NONE);
    }

    private static void promise4Part() {
        promise = "4";
        TitheMap x = new TitheMap();
        prices(x, 7, 7, 3, 1);
        x.make(10, 10, 1, 4);
        due("no such field", x.part(10, 1, 1), NONE);
        due("field -1", x.part(10, -1, 1), NONE);
        due("year 7", x.part(7, 0, 1), NONE);
        due("year 201", x.part(201, 0, 1), NONE);
        due("ahead of its making", x.part(9, 0, 1), NONE);
        due("area 0", x.part(10, 0, 0), NONE);
        due("area -1", x.part(10, 0, -1), NONE);
        due("area all", x.part(10, 0, 10), NONE);
        x.settle(11, 10);
        looks(x, 5, 11, 0, 10, 1, 4, 57, 100, 300, 0);
        due("part", x.part(12, 0, 3), 1);
        looks(x, 6, 12, 1, 3, 1, 4, 17, 30, 90, 0);
        looks(x, 6, 12, 2, 7, 1, 4, 40, 70, 210, 0);
        due("the old one is gone", x.look(6, 12, 0, 0), NONE);
        due("it was there", x.look(6, 11, 0, 0), 10);
        due("parted already", x.part(13, 0, 3), NONE);
        due("parted later", x.part(11, 0, 3), NONE);
        due("in the same year behind it", x.part(12, 2, 6), 3);
        x.buy(13, 4);
        due("a bought one", x.part(13, 3, 1), 5);
        due("its part is not bought", x.look(9, 13, 5, 6), 0);
        due("area 1", x.part(13, 4, 1), NONE);
        x.buy(14, 6);
        due("a bought one", x.part(15, 6, 2), 7);
        looks(x, 11, 15, 7, 2, 1, 4, 0, 0, 0, 1);
        looks(x, 11, 15, 8, 3, 1, 4, 0, 0, 0, 1);
    }

    private static void promise4PartFull() {
        promise = "4";
        TitheMap x = new TitheMap();
        for (int f = 0; f < 58; f++) {
            x.make(8, 2, 0, 0);
        }
        due("with 58 fields", x.part(9, 3, 1), 58);
        TitheMap y = new TitheMap();
        for (int f = 0; f < 59; f++) {
            y.make(8, 2, 0, 0);
        }
        due("with 59 fields", y.part(9, 3, 1), NONE);
        due("join with 59 fields", y.join(9, 3, 4), 59);
    }

    private static void promise5Join() {
        promise = "5";
        TitheMap x = new TitheMap();
        prices(x, 7, 7, 3, 1);
        x.make(10, 10000, 0, 1);
        x.make(10, 10000, 0, 1);
        x.make(10, 5, 0, 2);
        x.make(10, 5, 1, 1);
        due("other owners", x.join(11, 0, 2), NONE);
        due("other kinds", x.join(11, 0, 3), NONE);
        due("with itself", x.join(11, 0, 0), NONE);
        due("no such field", x.join(11, 0, 4), NONE);
        due("field -1", x.join(11, -1, 0), NONE);
        due("year 7", x.join(7, 0, 1), NONE);
        due("year 201", x.join(201, 0, 1), NONE);
        due("too early", x.join(9, 0, 1), NONE);
        x.settle(11, 1000);
        int wheat = x.look(8, 11, 0, 3) + x.look(8, 11, 1, 3);
        int oats = x.look(8, 11, 0, 5) + x.look(8, 11, 1, 5);
        due("join", x.join(12, 1, 0), 4);
        due("area", x.look(9, 12, 4, 0), 20000);
        due("wheat", x.look(9, 12, 4, 3), wheat);
        due("oats", x.look(9, 12, 4, 5), oats);
        due("an ended one", x.join(13, 0, 4), NONE);
        due("the one ended", x.look(9, 12, 0, 0), NONE);
        due("the other ended", x.look(9, 12, 1, 0), NONE);
        due("the one was there", x.look(9, 11, 1, 0), 10000);
        due("part of more than a made one's area", x.part(13, 4, 15000), 5);
        due("the rest", x.look(10, 13, 6, 0), 5000);
        x.buy(14, 5);
        due("bought and not bought", x.join(14, 5, 6), NONE);
        x.buy(14, 6);
        due("both bought", x.join(14, 5, 6), 7);
        looks(x, 13, 14, 7, 20000, 0, 1, 0, 0, 0, 1);
        due("a later sale that breaks it", x.sell(13, 5, 3), NONE);
    }

    private static void promise5JoinFull() {
        promise = "5";
        TitheMap x = new TitheMap();
        for (int f = 0; f < 60; f++) {
            x.make(8, 2, 0, 0);
        }
        due("with 60 fields", x.join(9, 3, 4), NONE);
        due("sell with 60 fields", x.sell(9, 3, 4), 60);
    }

    private static void promise6Sell() {
        promise = "6";
        TitheMap x = new TitheMap();
        x.make(10, 10, 0, 1);
        due("to its owner", x.sell(10, 0, 1), NONE);
        due("owner -1", x.sell(10, 0, -1), NONE);
        due("owner 10", x.sell(10, 0, 10), NONE);
        due("no such field", x.sell(10, 1, 2), NONE);
        due("field -1", x.sell(10, -1, 2), NONE);
        due("year 7", x.sell(7, 0, 2), NONE);
        due("year 201", x.sell(201, 0, 2), NONE);
        due("too early", x.sell(9, 0, 2), NONE);
        due("count(0)", x.count(0), 1);
        due("sell", x.sell(20, 0, 2), 1);
        due("told late, to the next owner", x.sell(15, 0, 2), NONE);
        due("told late", x.sell(15, 0, 0), 2);
        due("told late, back to the first", x.sell(15, 0, 1), 3);
        due("owner in year 19", x.look(4, 19, 0, 2), 1);
        due("owner in year 20", x.look(4, 20, 0, 2), 2);
        due("as known ahead", x.look(3, 19, 0, 2), 0);
        due("the last owner", x.sell(200, 0, 9), 4);
        due("owner in year 200", x.look(5, 200, 0, 2), 9);
    }

    private static void promise7SettleShares() {
        promise = "7";
        TitheMap x = new TitheMap();
        prices(x, 7, 1, 1, 1);
        // Weights 6, 2, 1, 3, 3 of 15, 11 pence: 4.4, 1.47, 0.73, 2.2, 2.2: the third and the second have the odd ones.
        x.make(8, 2, 0, 0);
        x.make(8, 1, 1, 0);
        x.make(8, 1, 2, 0);
        x.make(8, 1, 0, 0);
        x.make(8, 1, 0, 0);
        due("settle", x.settle(8, 11), 8);
        looks(x, 9, 8, 0, 2, 0, 0, 200, 100, 100, 0);
        looks(x, 9, 8, 1, 1, 1, 0, 100, 100, 0, 0);
        looks(x, 9, 8, 2, 1, 2, 0, 100, 0, 0, 0);
        looks(x, 9, 8, 3, 1, 0, 0, 100, 100, 0, 0);
        looks(x, 9, 8, 4, 1, 0, 0, 100, 100, 0, 0);
        TitheMap y = new TitheMap();
        prices(y, 7, 1, 1, 1);
        y.make(9, 1, 2, 0);
        y.make(8, 1, 2, 0);
        y.make(8, 1, 2, 0);
        // Like remainders: the lowest numbers, though another one was made in an earlier year.
        due("settle", y.settle(9, 2), 6);
        due("0 has one", y.look(7, 9, 0, 3), 100);
        due("1 has one", y.look(7, 9, 1, 3), 100);
        due("2 has none", y.look(7, 9, 2, 3), 0);
    }

    private static void promise7SettleCharges() {
        promise = "7";
        TitheMap x = new TitheMap();
        prices(x, 7, 8, 3, 1000);
        x.make(8, 10000, 0, 0);
        due("settle", x.settle(8, 5), 4);
        // Thirds 2, 2, 1: 25, 66.67, 0.1.
        looks(x, 5, 8, 0, 10000, 0, 0, 25, 67, 0, 0);
        // With another wheat price the charge is another one, as known.
        x.price(1, 0, 9);
        x.price(7, 0, 7);
        due("average", x.average(7, 8, 0), 8);
        x.price(7, 0, 23);
        due("a half up: 200 / 16 is 12.5", x.look(8, 8, 0, 3), 13);
        due("as known ahead", x.look(7, 8, 0, 3), 25);
        TitheMap y = new TitheMap();
        prices(y, 1, 1, 1, 1);
        for (int f = 0; f < 10; f++) {
            y.make(8, 10000, 0, 0);
        }
        due("settle", y.settle(8, 1000000), 13);
        due("all wheat", y.parish(14, 8, 2), 33334000L);
        due("all oats", y.parish(14, 8, 4), 33333000L);
    }

    private static void promise7SettleRefused() {
        promise = "7";
        TitheMap x = new TitheMap();
        x.price(1, 0, 1);
        x.price(1, 1, 1);
        x.make(8, 1, 0, 0);
        due("no oats", x.settle(8, 1), NONE);
        x.price(1, 2, 1);
        due("pence 0", x.settle(8, 0), NONE);
        due("pence 1000001", x.settle(8, 1000001), NONE);
        due("year 7", x.settle(7, 1), NONE);
        due("year 201", x.settle(201, 1), NONE);
        due("no average", x.settle(9, 1), NONE);
        x.price(8, 0, 1);
        x.price(8, 1, 1);
        x.price(8, 2, 1);
        due("settle", x.settle(9, 1), 7);
        due("once", x.settle(8, 1), NONE);
        due("once", x.settle(9, 1), NONE);
        due("once", x.settle(10, 1), NONE);
        TitheMap y = new TitheMap();
        prices(y, 7, 1, 1, 1);
        due("no field", y.settle(8, 1), NONE);
        y.make(9, 1, 0, 0);
        due("no field yet", y.settle(8, 1), NONE);
        due("settle", y.settle(9, 1), 4);
        due("a field told late has its share too", y.make(8, 2, 0, 0), 1);
        due("the first field", y.look(6, 9, 0, 3), 0);
        due("the new field", y.look(6, 9, 1, 3), 100);
        due("the first field as known ahead", y.look(5, 9, 0, 3), 100);
        due("told in the same year behind it", y.make(9, 3, 0, 0), 2);
        due("the last field has none", y.look(7, 9, 2, 3), 0);
    }

    private static void promises6To8WithAllFields() {
        promise = "6 to 8";
        TitheMap x = new TitheMap();
        prices(x, 7, 1, 1, 1);
        for (int f = 0; f < 60; f++) {
            x.make(8, 1, 2, 0);
        }
        due("settle with 60 fields", x.settle(8, 60), 63);
        due("buy with 60 fields", x.buy(8, 59), 64);
        due("sell with 60 fields", x.sell(8, 59, 1), 65);
        for (int e = 66; e < 80; e++) {
            due("sell again", x.sell(8, 59, e % 2 * 2), e);
        }
        due("sell as the 81st", x.sell(8, 59, 5), NONE);
        due("buy as the 81st", x.buy(8, 58), NONE);
        due("part as the 81st", x.part(8, 59, 1), NONE);
        due("the owner", x.look(80, 8, 59, 2), 2);
        TitheMap y = new TitheMap();
        prices(y, 7, 1, 1, 1);
        y.make(8, 1, 2, 0);
        for (int e = 4; e < 80; e++) {
            y.price(200, 0, 1);
        }
        due("settle as the 81st", y.settle(8, 1), NONE);
        TitheMap z = new TitheMap();
        prices(z, 7, 1, 1, 1);
        z.make(8, 1, 2, 0);
        due("the least settling", z.settle(8, 1), 4);
        looks(z, 5, 8, 0, 1, 2, 0, 100, 0, 0, 0);
    }

    private static void promise8Buy() {
        promise = "8";
        TitheMap x = new TitheMap();
        prices(x, 7, 1, 1, 1);
        x.make(8, 1, 0, 0);
        due("not settled", x.buy(9, 0), NONE);
        x.settle(10, 300);
        due("ahead of settling", x.buy(9, 0), NONE);
        due("no such field", x.buy(10, 1), NONE);
        due("field -1", x.buy(10, -1), NONE);
        due("year 7", x.buy(7, 0), NONE);
        due("year 201", x.buy(201, 0), NONE);
        due("buy", x.buy(15, 0), 5);
        looks(x, 6, 14, 0, 1, 0, 0, 10000, 10000, 10000, 0);
        looks(x, 6, 15, 0, 1, 0, 0, 0, 0, 0, 1);
        due("bought already", x.buy(16, 0), NONE);
        due("bought later", x.buy(14, 0), NONE);
        due("sold when bought", x.sell(16, 0, 1), 6);
        due("made behind settling", x.make(11, 1, 0, 0), 1);
        due("a field without charge", x.buy(12, 1), 8);
    }

    private static void promise9Average() {
        promise = "9";
        TitheMap x = new TitheMap();
        due("without any", x.average(0, 8, 0), NONE);
        x.price(1, 0, 1);
        x.price(7, 0, 2);
        x.price(8, 0, 1000);
        due("a half up", x.average(3, 8, 0), 2);
        due("the seven ahead", x.average(3, 9, 0), 501);
        due("year 2", x.average(3, 2, 0), 1);
        due("year 1", x.average(3, 1, 0), NONE);
        due("year 15", x.average(3, 15, 0), 1000);
        due("year 16", x.average(3, 16, 0), NONE);
        due("another corn", x.average(3, 8, 1), NONE);
        x.price(7, 0, 10);
        x.price(4, 0, 2);
        due("the last one counts", x.average(5, 8, 0), 4);
        due("as known ahead", x.average(4, 8, 0), 6);
        due("knowing 1", x.average(1, 8, 0), 1);
        due("knowing 6", x.average(6, 8, 0), NONE);
        due("knowing -1", x.average(-1, 8, 0), NONE);
        due("year 0", x.average(5, 0, 0), NONE);
        due("year 201", x.average(5, 201, 0), NONE);
        due("corn -1", x.average(5, 8, -1), NONE);
        due("corn 3", x.average(5, 8, 3), NONE);
        x.price(199, 2, 6);
        x.price(200, 2, 9);
        due("year 200", x.average(7, 200, 2), 6);
        due("year 201, though prices are ahead of it", x.average(7, 201, 2), NONE);
    }

    private static void promise10Look() {
        promise = "10";
        TitheMap x = new TitheMap();
        x.make(10, 7, 2, 3);
        looks(x, 1, 10, 0, 7, 2, 3, 0, 0, 0, 0, NONE);
        due("what -1", x.look(1, 10, 0, -1), NONE);
        due("ahead of its year", x.look(1, 9, 0, 0), NONE);
        due("year 200", x.look(1, 200, 0, 0), 7);
        due("year 201", x.look(1, 201, 0, 0), NONE);
        due("year -1", x.look(1, -1, 0, 0), NONE);
        due("year 0", x.look(1, 0, 0, 0), NONE);
        due("knowing 0", x.look(0, 10, 0, 0), NONE);
        due("knowing 2", x.look(2, 10, 0, 0), NONE);
        due("knowing -1", x.look(-1, 10, 0, 0), NONE);
        due("field 1", x.look(1, 10, 1, 0), NONE);
        due("field -1", x.look(1, 10, -1, 0), NONE);
        due("field 60", x.look(1, 10, 60, 0), NONE);
    }

    private static void promise11Money() {
        promise = "11";
        TitheMap x = new TitheMap();
        prices(x, 7, 100, 100, 100);
        x.make(8, 1, 0, 0);
        due("without charge", x.money(4, 8, 0), 0);
        x.settle(8, 4);
        looks(x, 5, 8, 0, 1, 0, 0, 2, 1, 1, 0);
        due("money", x.money(5, 8, 0), 4);
        due("year 14", x.money(5, 14, 0), 4);
        due("year 15: no average", x.money(5, 15, 0), NONE);
        prices(x, 14, 15, 15, 7);
        due("as known: 30 + 15 + 7 hundredths", x.money(8, 15, 0), 1);
        x.price(14, 2, 5);
        due("a half up: 50 hundredths", x.money(9, 15, 0), 1);
        x.price(14, 2, 4);
        due("49 hundredths", x.money(10, 15, 0), 0);
        due("as known ahead", x.money(9, 15, 0), 1);
        due("knowing 11", x.money(11, 15, 0), NONE);
        due("knowing -1", x.money(-1, 15, 0), NONE);
        due("year 0", x.money(10, 0, 0), NONE);
        due("year 201", x.money(10, 201, 0), NONE);
        due("field 1", x.money(10, 15, 1), NONE);
        due("field -1", x.money(10, 15, -1), NONE);
        due("not there yet", x.money(10, 7, 0), NONE);
        x.buy(15, 0);
        due("bought", x.money(11, 15, 0), 0);
        due("bought, without average", x.money(11, 30, 0), NONE);
        TitheMap y = new TitheMap();
        prices(y, 1, 1, 1, 1);
        y.make(8, 10000, 0, 0);
        y.settle(8, 1000000);
        prices(y, 8, 1000, 1000, 1000);
        due("a great sum", y.money(8, 9, 0), 1000000000L);
        due("a look at another year", y.look(8, 0, 0, 0), NONE);
        due("does not change it", y.money(8, 9, 0), 1000000000L);
        due("nor is it there in year 2", y.money(8, 2, 0), NONE);
        prices(y, 200, 5, 5, 5);
        due("year 201, though prices are ahead of it", y.money(11, 201, 0), NONE);
    }

    private static void promise12Owed() {
        promise = "12";
        TitheMap x = new TitheMap();
        prices(x, 7, 1, 1, 1);
        x.make(8, 1, 0, 1);
        x.make(8, 2, 0, 2);
        x.make(8, 3, 0, 1);
        x.settle(8, 600);
        due("owner 1", x.owed(7, 8, 1), 400);
        due("owner 2", x.owed(7, 8, 2), 200);
        due("owner 0", x.owed(7, 8, 0), 0);
        due("all", x.owed(7, 8, NONE), 600);
        due("owner -2", x.owed(7, 8, -2), NONE);
        due("owner 10", x.owed(7, 8, 10), NONE);
        due("year 0", x.owed(7, 0, 1), NONE);
        due("year 1", x.owed(7, 1, 1), 0);
        due("year 201", x.owed(7, 201, 1), NONE);
        due("knowing 8", x.owed(8, 8, 1), NONE);
        due("knowing -1", x.owed(-1, 8, 1), NONE);
        due("no average", x.owed(7, 15, 1), NONE);
        due("no average, no fields", x.owed(7, 15, 0), 0);
        due("no average, all", x.owed(7, 15, NONE), NONE);
        x.sell(9, 0, 2);
        due("sold", x.owed(8, 9, 2), 300);
        due("sold, as known ahead", x.owed(7, 9, 2), 200);
    }

    private static void promise13Parish() {
        promise = "13";
        TitheMap x = new TitheMap();
        prices(x, 7, 1, 2, 4);
        x.make(8, 10, 0, 1);
        x.make(9, 10, 0, 2);
        x.settle(10, 12);
        x.buy(11, 0);
        x.part(12, 0, 5);
        long[] settled = {2, 20, 400, 200, 100, 0, 1};
        long[] parted = {3, 20, 200, 100, 50, 2, 1};
        for (int what = 0; what < 7; what++) {
            due("year 10, " + what, x.parish(8, 10, what), settled[what]);
            due("year 12, " + what, x.parish(8, 12, what), parted[what]);
            due("year 0, " + what, x.parish(8, 0, what), 0);
        }
        due("year 8", x.parish(8, 8, 0), 1);
        due("year 9, settled", x.parish(8, 9, 6), 0);
        due("year 11, bought", x.parish(8, 11, 5), 1);
        due("year 12, as known ahead", x.parish(7, 12, 0), 2);
        due("what 7", x.parish(8, 12, 7), NONE);
        due("what -1", x.parish(8, 12, -1), NONE);
        due("year -1", x.parish(8, -1, 0), NONE);
        due("year 201", x.parish(8, 201, 0), NONE);
        due("knowing 9", x.parish(9, 12, 0), NONE);
        due("knowing -1", x.parish(-1, 12, 0), NONE);
    }

    private static void promise14Cost() {
        promise = "14";
        TitheMap x = new TitheMap();
        prices(x, 7, 1, 1, 1);
        x.make(8, 10, 0, 1);
        x.settle(8, 30);
        due("buy", x.buy(10, 0), 5);
        due("cost", x.cost(6, 5), 750);
        prices(x, 9, 3, 3, 3);
        due("cost by later prices", x.cost(9, 5), 1500);
        due("cost as known ahead", x.cost(6, 5), 750);
        due("a field told late", x.make(8, 10, 0, 2), 1);
        due("in that year behind settling, so it takes nothing", x.cost(10, 5), 1500);
        due("knowing 5", x.cost(5, 5), NONE);
        due("knowing 11", x.cost(11, 5), NONE);
        due("no buy", x.cost(10, 4), NONE);
        due("a price", x.cost(10, 0), NONE);
        due("entry -1", x.cost(10, -1), NONE);
        due("entry 10", x.cost(10, 10), NONE);
        due("buy in that year behind the other one", x.buy(10, 1), 10);
        due("without charge", x.cost(11, 10), 0);
        TitheMap y = new TitheMap();
        prices(y, 7, 1, 1, 1);
        y.make(9, 10, 0, 1);
        y.settle(9, 30);
        y.buy(20, 0);
        due("no average", y.cost(6, 5), NONE);
        prices(y, 19, 2, 2, 2);
        due("an average known later", y.cost(9, 5), 1500);
        y.make(8, 10, 0, 1);
        due("a field known later has half of it", y.cost(10, 5), 750);
        TitheMap z = new TitheMap();
        prices(z, 1, 1, 1, 1);
        z.make(8, 10000, 0, 0);
        z.settle(8, 1000000);
        prices(z, 8, 1000, 1000, 1000);
        z.buy(9, 0);
        due("a great cost", z.cost(9, 8), 25000000000L);
    }

    private static void promise15Field() {
        promise = "15";
        TitheMap x = new TitheMap();
        x.make(10, 10, 0, 1);
        x.make(11, 20, 0, 1);
        x.part(13, 1, 5);
        x.join(14, 3, 0);
        int[][] want = {
            {10, 14, 0, 3, NONE, NONE, NONE},
            {11, 13, 1, 2, NONE, NONE, NONE},
            {13, NONE, 2, NONE, 1, NONE, NONE},
            {13, 14, 2, 3, 1, NONE, NONE},
            {14, NONE, 3, NONE, 3, 0, NONE},
            {NONE, NONE, NONE, NONE, NONE, NONE, NONE},
        };
        for (int f = 0; f < want.length; f++) {
            for (int what = 0; what < 7; what++) {
                due("field(" + f + ", " + what + ")", x.field(f, what), want[f][what]);
            }
        }
        due("field(-1, 0)", x.field(-1, 0), NONE);
        due("field(0, -1)", x.field(0, -1), NONE);
        due("field(60, 0)", x.field(60, 0), NONE);
        due("refused", x.part(9, 0, 5), NONE);
        due("still", x.field(0, 3), 3);
    }

    private static void promise16Differ() {
        promise = "16";
        TitheMap x = new TitheMap();
        prices(x, 7, 1, 1, 1);
        x.make(8, 1, 0, 0);
        x.make(8, 1, 0, 0);
        x.make(8, 1, 0, 0);
        due("there by one alone", x.differ(4, 6, 8, 0), 1);
        due("the next", x.differ(4, 6, 8, 1), 2);
        due("no third", x.differ(4, 6, 8, 2), NONE);
        due("the other way round", x.differ(6, 4, 8, 1), 2);
        due("i -1", x.differ(4, 6, 8, -1), NONE);
        due("the same", x.differ(6, 6, 8, 0), NONE);
        due("year 7", x.differ(4, 6, 7, 0), NONE);
        due("year 0", x.differ(4, 6, 0, 0), NONE);
        due("year -1", x.differ(4, 6, -1, 0), NONE);
        due("year 201", x.differ(4, 6, 201, 0), NONE);
        due("year 200", x.differ(4, 6, 200, 0), 1);
        due("knowing 7", x.differ(4, 7, 8, 0), NONE);
        due("knowing 7", x.differ(7, 4, 8, 0), NONE);
        due("knowing -1", x.differ(-1, 4, 8, 0), NONE);
        due("knowing -1", x.differ(4, -1, 8, 0), NONE);
        x.settle(8, 3);
        due("a charge", x.differ(6, 7, 8, 2), 2);
        x.sell(9, 1, 5);
        due("an owner", x.differ(7, 8, 9, 0), 1);
        due("no other", x.differ(7, 8, 9, 1), NONE);
        x.make(10, 1, 0, 0);
        x.buy(10, 3);
        due("bought alone", x.differ(9, 10, 10, 0), 3);
        x.price(7, 2, 2);
        due("a price alone: no share has a penny for oats", x.differ(10, 11, 8, 0), NONE);
        x.price(7, 0, 2);
        due("a price alone", x.differ(11, 12, 8, 0), 0);
    }

    private static void promise17Entry() {
        promise = "17";
        TitheMap x = new TitheMap();
        prices(x, 7, 1, 1, 1);
        x.make(9, 10, 0, 1);
        x.make(9, 10, 0, 1);
        x.part(11, 1, 5);
        x.join(12, 3, 2);
        x.sell(10, 0, 2);
        x.settle(9, 100);
        x.buy(13, 4);
        int[][] want = {
            {0, 7, 0, NONE, NONE},
            {0, 7, 1, NONE, NONE},
            {0, 7, 2, NONE, NONE},
            {1, 9, NONE, 0, NONE},
            {1, 9, NONE, 1, NONE},
            {2, 11, 1, 2, NONE},
            {3, 12, 3, 4, NONE},
            {4, 10, 0, NONE, NONE},
            {5, 9, NONE, NONE, NONE},
            {6, 13, 4, NONE, NONE},
            {NONE, NONE, NONE, NONE, NONE},
        };
        for (int e = 0; e < want.length; e++) {
            for (int what = 0; what < 5; what++) {
                due("entry(" + e + ", " + what + ")", x.entry(e, what), want[e][what]);
            }
        }
        due("entry(-1, 0)", x.entry(-1, 0), NONE);
        due("entry(0, -1)", x.entry(0, -1), NONE);
        due("entry(80, 0)", x.entry(80, 0), NONE);
        x.part(11, 4, 5);
        due("a refused draft is no entry", x.entry(10, 0), NONE);
    }

    private static void promise18Count() {
        promise = "18";
        TitheMap x = new TitheMap();
        x.price(7, 0, 1);
        x.make(9, 10, 0, 1);
        x.part(11, 0, 5);
        x.sell(12, 0, 5);
        due("entries", x.count(0), 3);
        due("fields", x.count(1), 3);
        due("count(2)", x.count(2), NONE);
        due("count(-1)", x.count(-1), NONE);
    }
}
