import java.math.BigInteger;
import java.util.ArrayList;
import java.util.Comparator;
import java.util.List;
import java.util.Map;
import java.util.TreeMap;

/**
 * Long runs of calls, drawn by a fixed rule, each answer held against a second reading of the document:
 * a slow model with objects, sorted lists and whole numbers of any size.
 */
public final class ModelTest {
    private static final int RUNS = 400;
    private static final int CALLS = 512;
    private static int wrong = 0;
    private static long seed;

    public static void main(String[] args) {
        int[] taken = new int[7];
        for (int run = 0; run < RUNS; run++) {
            seed = 7919L * run + 17;
            run(run, taken);
        }
        for (int act = 0; act < taken.length; act++) {
            if (taken[act] < RUNS / 2) {
                wrong++;
                System.out.println("only " + taken[act] + " entries of act " + act + " were taken: the runs try too little");
            }
        }
        System.out.println(wrong == 0 ? "all answers are the model's" : wrong + " answers are not the model's");
        if (wrong != 0) {
            System.exit(1);
        }
    }

    private static int draw(int least, int most) {
        seed = seed * 6364136223846793005L + 1442695040888963407L;
        return least + (int) Math.floorMod(seed >>> 33, (long) most - least + 1);
    }

    private static void run(int run, int[] taken) {
        TitheMap map = new TitheMap();
        Model model = new Model();
        int span = draw(0, 3) == 0 ? 200 : draw(9, 24);
        // Told in one go at first in some runs, so that the last ones meet a full book.
        int tellShare = draw(2, 9);
        for (int call = 0; call < CALLS && wrong < 20; call++) {
            int n = model.entries.size();
            if (draw(0, 9) < tellShare) {
                tell(run, map, model, span);
            } else {
                ask(run, map, model, span);
            }
            if (model.entries.size() > n) {
                taken[model.entries.get(n).act]++;
            }
        }
    }

    private static void due(int run, String call, long got, long want) {
        if (got != want) {
            wrong++;
            System.out.println("run " + run + ": " + call + " answered " + got + ", the model " + want);
        }
    }

    private static int aField(Model m) {
        int n = m.makers.size();
        return n == 0 || draw(0, 30) == 0 ? draw(-1, n + 1) : draw(Math.max(0, n - 8), n - 1);
    }

    private static int aYear(int least, int span) {
        return draw(0, 40) == 0 ? draw(least - 1, 201) : draw(least, Math.max(least, span));
    }

    private static void tell(int run, TitheMap map, Model m, int span) {
        int year = aYear(8, span);
        int f = aField(m);
        switch (draw(0, 9)) {
            case 0, 1 -> {
                int y = aYear(1, span), corn = draw(0, 20) == 0 ? draw(-1, 3) : draw(0, 2), pence = draw(0, 3) == 0 ? draw(0, 1001) : draw(1, 40);
                due(run, "price", map.price(y, corn, pence), m.price(y, corn, pence));
            }
            case 2, 3 -> {
                int area = draw(0, 4) == 0 ? draw(9990, 10001) : draw(0, 50), kind = draw(0, 20) == 0 ? draw(-1, 3) : draw(0, 3) / 2, owner = draw(0, 20) == 0 ? draw(-1, 10) : draw(0, 2);
                due(run, "make", map.make(year, area, kind, owner), m.make(year, area, kind, owner));
            }
            case 4 -> {
                int area = draw(0, 9) == 0 ? draw(0, 20000) : draw(0, 25);
                due(run, "part", map.part(year, f, area), m.part(year, f, area));
            }
            case 5, 6 -> {
                int g = aField(m);
                due(run, "join", map.join(year, f, g), m.join(year, f, g));
            }
            case 7 -> {
                int owner = draw(0, 20) == 0 ? draw(-1, 10) : draw(0, 2);
                due(run, "sell", map.sell(year, f, owner), m.sell(year, f, owner));
            }
            case 8 -> {
                int pence = draw(0, 9) == 0 ? draw(0, 1) * 1000001 : draw(0, 1) == 0 ? draw(1, 1000) : draw(1, 1000000);
                due(run, "settle", map.settle(year, pence), m.settle(year, pence));
            }
            default -> due(run, "buy", map.buy(year, f), m.buy(year, f));
        }
    }

    private static void ask(int run, TitheMap map, Model m, int span) {
        int n = m.entries.size();
        int k = draw(0, 20) == 0 ? draw(-1, n + 1) : draw(0, 1) == 0 ? n : draw(0, n);
        int y = aYear(0, span + 3);
        int f = aField(m);
        int what = draw(-1, 7);
        switch (draw(0, 9)) {
            case 0 -> {
                int corn = draw(0, 9) == 0 ? draw(-1, 3) : draw(0, 2);
                due(run, "average", map.average(k, y, corn), m.average(k, y, corn));
            }
            case 1 -> due(run, "look", map.look(k, y, f, what), m.look(k, y, f, what));
            case 2 -> due(run, "money", map.money(k, y, f), m.money(k, y, f));
            case 3 -> {
                int owner = draw(0, 9) == 0 ? draw(-2, 10) : draw(-1, 2);
                due(run, "owed", map.owed(k, y, owner), m.owed(k, y, owner));
            }
            case 4 -> due(run, "parish", map.parish(k, y, what), m.parish(k, y, what));
            case 5 -> {
                int e = m.someBuy(draw(0, 79), draw(-1, n));
                due(run, "cost", map.cost(k, e), m.cost(k, e));
            }
            case 6 -> due(run, "field", map.field(f, what), m.field(f, what));
            case 7 -> {
                int l = draw(0, n), i = draw(-1, 4);
                due(run, "differ", map.differ(k, l, y, i), m.differ(k, l, y, i));
            }
            case 8 -> {
                int e = draw(-1, n);
                due(run, "entry", map.entry(e, what), m.entry(e, what));
            }
            default -> due(run, "count", map.count(what), m.count(what));
        }
    }

    /** An entry; a, b, c are what the call told behind the year, in its order. */
    private record Told(int number, int act, int year, int a, int b, int c, int made) { }

    private static final class Plot {
        int area;
        int kind;
        int owner;
        boolean bought;
        BigInteger[] charge = {BigInteger.ZERO, BigInteger.ZERO, BigInteger.ZERO};

        List<Object> looks() {
            return List.of(area, kind, owner, charge[0], charge[1], charge[2], bought ? 1 : 0);
        }

        static Plot like(Plot old, int area) {
            Plot p = new Plot();
            p.area = area;
            p.kind = old.kind;
            p.owner = old.owner;
            p.bought = old.bought;
            return p;
        }
    }

    private static final class World {
        final TreeMap<Integer, Plot> plots = new TreeMap<>();
        boolean settled;
        boolean fits = true;
    }

    private static final class Model {
        List<Told> entries = new ArrayList<>();
        final List<Integer> makers = new ArrayList<>();

        private boolean full() {
            return entries.size() == 80;
        }

        private static boolean actYear(int year) {
            return 8 <= year && year <= 200;
        }

        private boolean known(int f) {
            return 0 <= f && f < makers.size();
        }

        private int take(int act, int year, int a, int b, int c, int news) {
            int e = entries.size();
            int made = news == 0 ? -1 : makers.size();
            List<Told> before = new ArrayList<>(entries);
            entries.add(new Told(e, act, year, a, b, c, made));
            if (act != 0 && !world(e + 1, 200, -1).fits) {
                entries = before;
                return -1;
            }
            for (int i = 0; i < news; i++) {
                makers.add(e);
            }
            return news == 0 ? e : made;
        }

        int price(int year, int corn, int pence) {
            boolean good = !full() && 1 <= year && year <= 200 && 0 <= corn && corn <= 2 && 1 <= pence && pence <= 1000;
            return good ? take(0, year, corn, pence, 0, 0) : -1;
        }

        int make(int year, int area, int kind, int owner) {
            boolean good = !full() && actYear(year) && 1 <= area && area <= 10000 && 0 <= kind && kind <= 2
                    && 0 <= owner && owner <= 9 && makers.size() < 60;
            return good ? take(1, year, area, kind, owner, 1) : -1;
        }

        int part(int year, int f, int area) {
            return !full() && actYear(year) && known(f) && area >= 1 && makers.size() < 59 ? take(2, year, f, area, 0, 2) : -1;
        }

        int join(int year, int f, int g) {
            return !full() && actYear(year) && known(f) && known(g) && makers.size() < 60 ? take(3, year, f, g, 0, 1) : -1;
        }

        int sell(int year, int f, int owner) {
            return !full() && actYear(year) && known(f) && 0 <= owner && owner <= 9 ? take(4, year, f, owner, 0, 0) : -1;
        }

        int settle(int year, int pence) {
            return !full() && actYear(year) && 1 <= pence && pence <= 1000000 ? take(5, year, pence, 0, 0, 0) : -1;
        }

        int buy(int year, int f) {
            return !full() && actYear(year) && known(f) ? take(6, year, f, 0, 0, 0) : -1;
        }

        private static BigInteger nearest(BigInteger over, BigInteger under) {
            BigInteger two = BigInteger.TWO;
            return over.multiply(two).add(under).divide(under.multiply(two));
        }

        private int mean(int k, int y, int corn) {
            Map<Integer, Integer> prices = new TreeMap<>();
            for (Told t : entries.subList(0, k)) {
                if (t.act == 0 && t.a == corn) {
                    prices.put(t.year, t.b);
                }
            }
            int sum = 0;
            int n = 0;
            for (int year = y - 7; year < y; year++) {
                if (prices.containsKey(year)) {
                    sum += prices.get(year);
                    n++;
                }
            }
            return n == 0 ? -1 : nearest(BigInteger.valueOf(sum), BigInteger.valueOf(n)).intValue();
        }

        /** As things are by knowing k in year y, with the acts ahead of entry stop alone if that is one. */
        private World world(int k, int y, int stop) {
            World w = new World();
            List<Told> acts = new ArrayList<>();
            for (Told t : entries.subList(0, k)) {
                if (t.act != 0 && t.year <= y) {
                    acts.add(t);
                }
            }
            acts.sort(Comparator.comparingInt((Told t) -> t.year).thenComparingInt(t -> t.number));
            for (Told t : acts) {
                if (t.number == stop) {
                    break;
                }
                w.fits &= perform(w, t, k);
                if (!w.fits) {
                    break;
                }
            }
            return w;
        }

        private boolean perform(World w, Told t, int k) {
            Plot p = t.act == 1 || t.act == 5 ? null : w.plots.get(t.a);
            if (p == null && t.act != 1 && t.act != 5) {
                return false;
            }
            switch (t.act) {
                case 1 -> {
                    Plot q = new Plot();
                    q.area = t.a;
                    q.kind = t.b;
                    q.owner = t.c;
                    w.plots.put(t.made, q);
                    return true;
                }
                case 2 -> {
                    if (p.area <= t.b) {
                        return false;
                    }
                    Plot q = Plot.like(p, t.b);
                    Plot r = Plot.like(p, p.area - t.b);
                    for (int c = 0; c < 3; c++) {
                        q.charge[c] = p.charge[c].multiply(BigInteger.valueOf(t.b)).divide(BigInteger.valueOf(p.area));
                        r.charge[c] = p.charge[c].subtract(q.charge[c]);
                    }
                    w.plots.remove(t.a);
                    w.plots.put(t.made, q);
                    w.plots.put(t.made + 1, r);
                    return true;
                }
                case 3 -> {
                    Plot g = w.plots.get(t.b);
                    if (g == null || t.a == t.b || p.kind != g.kind || p.owner != g.owner || p.bought != g.bought) {
                        return false;
                    }
                    Plot q = Plot.like(p, p.area + g.area);
                    for (int c = 0; c < 3; c++) {
                        q.charge[c] = p.charge[c].add(g.charge[c]);
                    }
                    w.plots.remove(t.a);
                    w.plots.remove(t.b);
                    w.plots.put(t.made, q);
                    return true;
                }
                case 4 -> {
                    boolean other = p.owner != t.b;
                    p.owner = t.b;
                    return other;
                }
                case 5 -> {
                    return settleAll(w, t, k);
                }
                default -> {
                    boolean fits = w.settled && !p.bought;
                    p.bought = true;
                    p.charge = new BigInteger[] {BigInteger.ZERO, BigInteger.ZERO, BigInteger.ZERO};
                    return fits;
                }
            }
        }

        private boolean settleAll(World w, Told t, int k) {
            int[] means = {mean(k, t.year, 0), mean(k, t.year, 1), mean(k, t.year, 2)};
            if (w.settled || w.plots.isEmpty() || means[0] < 0 || means[1] < 0 || means[2] < 0) {
                return false;
            }
            long total = 0;
            for (Plot p : w.plots.values()) {
                total += (long) p.area * (p.kind == 0 ? 3 : p.kind == 1 ? 2 : 1);
            }
            Map<Integer, Long> shares = new TreeMap<>();
            Map<Integer, Long> rests = new TreeMap<>();
            long left = t.a;
            for (Map.Entry<Integer, Plot> x : w.plots.entrySet()) {
                Plot p = x.getValue();
                long product = (long) t.a * p.area * (p.kind == 0 ? 3 : p.kind == 1 ? 2 : 1);
                shares.put(x.getKey(), product / total);
                rests.put(x.getKey(), product % total);
                left -= product / total;
            }
            List<Integer> byRest = new ArrayList<>(w.plots.keySet());
            byRest.sort(Comparator.comparingLong((Integer f) -> -rests.get(f)).thenComparingInt(f -> f));
            for (int i = 0; i < left; i++) {
                shares.merge(byRest.get(i), 1L, Long::sum);
            }
            for (Map.Entry<Integer, Plot> x : w.plots.entrySet()) {
                long share = shares.get(x.getKey());
                long[] thirds = {(share + 2) / 3, (share + 1) / 3, share / 3};
                for (int c = 0; c < 3; c++) {
                    x.getValue().charge[c] = nearest(BigInteger.valueOf(100 * thirds[c]), BigInteger.valueOf(means[c]));
                }
            }
            w.settled = true;
            return true;
        }

        private boolean knowing(int k) {
            return 0 <= k && k <= entries.size();
        }

        int average(int k, int y, int corn) {
            return knowing(k) && 1 <= y && y <= 200 && 0 <= corn && corn <= 2 ? mean(k, y, corn) : -1;
        }

        int look(int k, int y, int f, int what) {
            if (!knowing(k) || y < 0 || y > 200 || what < 0 || what > 6) {
                return -1;
            }
            Plot p = world(k, y, -1).plots.get(f);
            return p == null ? -1 : ((Number) p.looks().get(what)).intValue();
        }

        private long worth(Plot p, int k, int y) {
            BigInteger sum = BigInteger.ZERO;
            for (int c = 0; c < 3; c++) {
                int mean = mean(k, y, c);
                if (mean < 0) {
                    return -1;
                }
                sum = sum.add(p.charge[c].multiply(BigInteger.valueOf(mean)));
            }
            return nearest(sum, BigInteger.valueOf(100)).longValueExact();
        }

        long money(int k, int y, int f) {
            if (!knowing(k) || y < 1 || y > 200) {
                return -1;
            }
            Plot p = world(k, y, -1).plots.get(f);
            return p == null ? -1 : worth(p, k, y);
        }

        long owed(int k, int y, int owner) {
            if (!knowing(k) || y < 1 || y > 200 || owner < -1 || owner > 9) {
                return -1;
            }
            long sum = 0;
            for (Plot p : world(k, y, -1).plots.values()) {
                if (owner == -1 || p.owner == owner) {
                    long worth = worth(p, k, y);
                    if (worth < 0) {
                        return -1;
                    }
                    sum += worth;
                }
            }
            return sum;
        }

        long parish(int k, int y, int what) {
            if (!knowing(k) || y < 0 || y > 200 || what < 0 || what > 6) {
                return -1;
            }
            World w = world(k, y, -1);
            long sum = 0;
            for (Plot p : w.plots.values()) {
                sum += switch (what) {
                    case 0 -> 1;
                    case 1 -> p.area;
                    case 2, 3, 4 -> p.charge[what - 2].longValueExact();
                    case 5 -> p.bought ? 1 : 0;
                    default -> 0;
                };
            }
            return what == 6 ? (w.settled ? 1 : 0) : sum;
        }

        /** The buy that is the nearest from an entry on, else another entry. */
        int someBuy(int from, int other) {
            for (Told t : entries) {
                if (t.act == 6 && t.number >= from) {
                    return t.number;
                }
            }
            for (Told t : entries) {
                if (t.act == 6) {
                    return t.number;
                }
            }
            return other;
        }

        long cost(int k, int e) {
            if (!knowing(k) || e < 0 || e >= k || entries.get(e).act != 6) {
                return -1;
            }
            Told t = entries.get(e);
            long worth = worth(world(k, t.year, e).plots.get(t.a), k, t.year);
            return worth < 0 ? -1 : 25 * worth;
        }

        int field(int f, int what) {
            if (!known(f)) {
                return -1;
            }
            Told maker = entries.get(makers.get(f));
            Told ender = null;
            for (Told t : entries) {
                if (t.act == 2 && t.a == f || t.act == 3 && (t.a == f || t.b == f)) {
                    ender = t;
                }
            }
            return switch (what) {
                case 0 -> maker.year;
                case 1 -> ender == null ? -1 : ender.year;
                case 2 -> maker.number;
                case 3 -> ender == null ? -1 : ender.number;
                case 4 -> maker.act == 1 ? -1 : maker.a;
                case 5 -> maker.act == 3 ? maker.b : -1;
                default -> -1;
            };
        }

        int differ(int k, int l, int y, int i) {
            if (!knowing(k) || !knowing(l) || y < 0 || y > 200) {
                return -1;
            }
            World one = world(k, y, -1);
            World two = world(l, y, -1);
            List<Integer> otherwise = new ArrayList<>();
            for (int f = 0; f < 60; f++) {
                Plot p = one.plots.get(f);
                Plot q = two.plots.get(f);
                if (p == null ? q != null : q == null || !p.looks().equals(q.looks())) {
                    otherwise.add(f);
                }
            }
            return i < 0 || i >= otherwise.size() ? -1 : otherwise.get(i);
        }

        int entry(int e, int what) {
            if (e < 0 || e >= entries.size()) {
                return -1;
            }
            Told t = entries.get(e);
            return switch (what) {
                case 0 -> t.act;
                case 1 -> t.year;
                case 2 -> t.act == 1 || t.act == 5 ? -1 : t.a;
                case 3 -> t.made;
                default -> -1;
            };
        }

        int count(int what) {
            return what == 0 ? entries.size() : what == 1 ? makers.size() : -1;
        }
    }
}
