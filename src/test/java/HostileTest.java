/** Calls with the strangest arguments in many states: none may throw, and a refused one changes nothing. */
public final class HostileTest {
    private static final int[] STRANGE = {
        Integer.MIN_VALUE, Integer.MIN_VALUE + 1, -61, -2, -1, 0, 1, 2, 7, 8, 60, 80, 81, 200, 201, 10000,
        1 << 30, Integer.MAX_VALUE - 1, Integer.MAX_VALUE,
    };
    private static int wrong = 0;

    public static void main(String[] args) {
        for (int stage = 0; stage < 4; stage++) {
            for (int method = 0; method < 18; method++) {
                for (int a : STRANGE) {
                    for (int b : STRANGE) {
                        callAll(stage, method, a, b);
                    }
                }
            }
        }
        System.out.println(wrong == 0 ? "nothing threw, nothing refused left a mark" : wrong + " faults");
        if (wrong != 0) {
            System.exit(1);
        }
    }

    /** One map for each pair, so that no map has more than 512 calls. */
    private static void callAll(int stage, int method, int a, int b) {
        TitheMap x = map(stage);
        String before = picture(x);
        for (int c : STRANGE) {
            long answer;
            try {
                answer = call(x, method, a, b, c);
            } catch (RuntimeException thrown) {
                fault(stage, method, a, b, c, "threw " + thrown);
                return;
            }
            if (method < 7 && answer != TitheMap.NONE) {
                x = map(stage);
            } else if (answer < TitheMap.NONE) {
                fault(stage, method, a, b, c, "answered " + answer);
            }
        }
        if (!picture(x).equals(before)) {
            fault(stage, method, a, b, 0, "left a mark");
        }
    }

    private static void fault(int stage, int method, int a, int b, int c, String what) {
        wrong++;
        if (wrong < 20) {
            System.out.println("stage " + stage + ", method " + method + " (" + a + ", " + b + ", " + c + "): " + what);
        }
    }

    private static TitheMap map(int stage) {
        TitheMap x = new TitheMap();
        if (stage == 0) {
            return x;
        }
        for (int corn = 0; corn < 3; corn++) {
            x.price(1, corn, 2);
        }
        x.make(8, 10, 0, 1);
        x.make(8, 10000, 0, 1);
        x.settle(8, 1000);
        x.buy(8, 0);
        x.part(9, 0, 3);
        if (stage == 2) {
            for (int e = 8; e < 80; e++) {
                x.price(199, 2, 9);
            }
        }
        if (stage == 3) {
            for (int f = 4; f < 60; f++) {
                x.make(200, 2, 0, 1);
            }
        }
        return x;
    }

    private static long call(TitheMap x, int method, int a, int b, int c) {
        switch (method) {
            case 0: return x.price(a, b, c);
            case 1: return Math.max(Math.max(x.make(a, b, c, c), x.make(8, a, b, c)), x.make(a, 1, b, c));
            case 2: return x.part(a, b, c);
            case 3: return x.join(a, b, c);
            case 4: return x.sell(a, b, c);
            case 5: return x.settle(a, b);
            case 6: return x.buy(a, b);
            case 7: return x.average(a, b, c);
            case 8: return Math.max(x.look(a, b, c, c), x.look(x.count(0), a, b, c));
            case 9: return x.money(a, b, c);
            case 10: return x.owed(a, b, c);
            case 11: return x.parish(a, b, c);
            case 12: return x.cost(a, b);
            case 13: return x.field(a, b);
            case 14: return Math.max(x.differ(a, b, c, 0), x.differ(0, x.count(0), b, c));
            case 15: return x.entry(a, b);
            case 16: return x.count(a);
            default: return Math.max(x.owed(x.count(0), a, b), x.cost(x.count(0), c));
        }
    }

    /** All that the map tells of its entries and fields, and how the parish stands. */
    private static String picture(TitheMap x) {
        StringBuilder all = new StringBuilder();
        all.append(x.count(0)).append(' ').append(x.count(1));
        for (int what = 0; what < 7; what++) {
            all.append(' ').append(x.parish(x.count(0), 200, what));
            all.append(' ').append(x.parish(x.count(0), 8, what));
        }
        for (int e = 0; e <= x.count(0) && e < 12; e++) {
            for (int what = 0; what < 4; what++) {
                all.append(' ').append(x.entry(e, what));
            }
        }
        for (int f = 0; f <= x.count(1) && f < 6; f++) {
            for (int what = 0; what < 6; what++) {
                all.append(' ').append(x.field(f, what));
            }
        }
        all.append(' ').append(x.owed(x.count(0), 8, TitheMap.NONE));
        return all.toString();
    }
}
