import java.io.IOException;
import java.nio.file.Files;
import java.nio.file.Path;
import java.util.Arrays;
import java.util.function.Supplier;

/**
 * A map on which the edge tests work: each call is named, and its answer held against the one that is due, under
 * the sentence of the document that asks for it. It counts its calls, for past 512 of them nothing is promised.
 */
final class Desk {
    static final int NONE = TitheMap.NONE;
    /** Values that are no number of anything; some would be one if their upper bits were lost. */
    static final int[] FAR = {
        Integer.MIN_VALUE, Integer.MIN_VALUE + 8, -65528, -248, -2, 65536, 65536 + 8, (1 << 24) + 8, Integer.MAX_VALUE,
    };

    private static final int MOST_CALLS = 512;
    private static final int PICTURES = 5;
    private static final String DOCUMENT = document();
    private static String sentence = "";
    private static int sentences = 0;
    private static int answers = 0;
    private static int wrong = 0;

    private final TitheMap map = new TitheMap();
    private int calls = 0;

    private static String document() {
        try {
            return Files.readString(Path.of("../shared/DOC.md")).replaceAll("\\s+", " ");
        } catch (IOException notThere) {
            return "";
        }
    }

    /** What follows holds this promise to these words of the document. */
    static void sentence(int promise, String words) {
        sentences++;
        sentence = "promise " + promise + ", \"" + words + "\"";
        if (!DOCUMENT.contains(words)) {
            fault("the document has no such words");
        }
    }

    static void end() {
        System.out.println(sentences + " sentences, " + answers + " answers, " + wrong + " not as due");
        if (wrong != 0 || sentences == 0) {
            System.exit(1);
        }
    }

    private static void fault(String what) {
        wrong++;
        if (wrong <= 50) {
            System.out.println(sentence + ": " + what);
        }
    }

    /** A call of the map by its name. */
    long ask(String name, int... a) {
        calls++;
        if (calls > MOST_CALLS) {
            fault("the test itself makes more than " + MOST_CALLS + " calls on one map");
        }
        return switch (name) {
            case "price" -> map.price(a[0], a[1], a[2]);
            case "make" -> map.make(a[0], a[1], a[2], a[3]);
            case "part" -> map.part(a[0], a[1], a[2]);
            case "join" -> map.join(a[0], a[1], a[2]);
            case "sell" -> map.sell(a[0], a[1], a[2]);
            case "settle" -> map.settle(a[0], a[1]);
            case "buy" -> map.buy(a[0], a[1]);
            case "average" -> map.average(a[0], a[1], a[2]);
            case "look" -> map.look(a[0], a[1], a[2], a[3]);
            case "money" -> map.money(a[0], a[1], a[2]);
            case "owed" -> map.owed(a[0], a[1], a[2]);
            case "parish" -> map.parish(a[0], a[1], a[2]);
            case "cost" -> map.cost(a[0], a[1]);
            case "field" -> map.field(a[0], a[1]);
            case "differ" -> map.differ(a[0], a[1], a[2], a[3]);
            case "entry" -> map.entry(a[0], a[1]);
            case "count" -> map.count(a[0]);
            default -> throw new IllegalArgumentException(name);
        };
    }

    Desk due(long want, String name, int... a) {
        answers++;
        long got = ask(name, a);
        if (got != want) {
            String row = Arrays.toString(a);
            fault(name + "(" + row.substring(1, row.length() - 1) + ") answered " + got + ", due is " + want);
        }
        return this;
    }

    /** An entry that must be taken, as the ground of what is asked behind it. */
    Desk told(String name, int... a) {
        if (ask(name, a) == NONE) {
            fault("the test's own ground is not taken: " + name + Arrays.toString(a));
        }
        return this;
    }

    /** Prices of wheat, barley and oats in one year: three entries. */
    Desk prices(int year, int wheat, int barley, int oats) {
        return told("price", year, 0, wheat).told("price", year, 1, barley).told("price", year, 2, oats);
    }

    /** So many entries more, none of which is known by an act: prices of the last year. */
    Desk filled(int entries) {
        for (int n = (int) ask("count", 0); n < entries; n++) {
            told("price", 200, 0, 1 + n);
        }
        return this;
    }

    /** So many fields more, of area 2, arable, owner 0, made in year 8. */
    Desk made(int fields) {
        for (int n = (int) ask("count", 1); n < fields; n++) {
            told("make", 8, 2, 0, 0);
        }
        return this;
    }

    /** All that look() tells of a field, in its order; NONE alone: it is not there. */
    Desk looks(int k, int y, int f, int... want) {
        for (int what = 0; what < 7; what++) {
            due(want.length == 1 ? want[0] : want[what], "look", k, y, f, what);
        }
        return this;
    }

    /** The charges of a field, from wheat to oats. */
    Desk charges(int k, int y, int f, int wheat, int barley, int oats) {
        return due(wheat, "look", k, y, f, 3).due(barley, "look", k, y, f, 4).due(oats, "look", k, y, f, 5);
    }

    /** The call is refused on a map that stands so, and the map is then as one on which it was never called. */
    static void refused(Supplier<Desk> start, String name, int... a) {
        unchanged(start, NONE, name, a);
    }

    /** The call has this answer on a map that stands so, and the map is then as one on which it was never called. */
    static void unchanged(Supplier<Desk> start, long want, String name, int... a) {
        for (int picture = 0; picture < PICTURES; picture++) {
            Desk touched = start.get().due(want, name, a);
            if (!touched.picture(picture).equals(start.get().picture(picture))) {
                fault(name + Arrays.toString(a) + " left a mark");
            }
        }
    }

    /** The call is taken on a map that stands so, with this answer. */
    static void taken(Supplier<Desk> start, long want, String name, int... a) {
        start.get().due(want, name, a);
    }

    /** Refused for every far value at one place of the arguments. */
    static void refusedFar(Supplier<Desk> start, int place, String name, int... a) {
        for (int far : FAR) {
            int[] b = a.clone();
            b[place] = far;
            refused(start, name, b);
        }
    }

    /** The question has no answer for every far value at one place of the arguments. */
    Desk noneFar(int place, String name, int... a) {
        for (int far : FAR) {
            int[] b = a.clone();
            b[place] = far;
            due(NONE, name, b);
        }
        return this;
    }

    /** A part of all that the map tells: the whole would need more calls than a map has. */
    private String picture(int part) {
        StringBuilder all = new StringBuilder();
        int entries = (int) ask("count", 0);
        int fields = (int) ask("count", 1);
        all.append(entries).append(' ').append(fields);
        switch (part) {
            case 0 -> showAll(all, "entry", entries + 1, 4);
            case 1 -> showAll(all, "field", fields + 1, 6);
            case 2 -> showLooks(all, entries, fields);
            case 3 -> showParish(all, entries);
            default -> showNext(all, entries, fields);
        }
        return all.toString();
    }

    private void show(StringBuilder all, String name, int... a) {
        all.append(' ').append(ask(name, a));
    }

    private void showAll(StringBuilder all, String name, int numbers, int whats) {
        for (int number = 0; number < numbers; number++) {
            for (int what = 0; what < whats; what++) {
                show(all, name, number, what);
            }
        }
    }

    private void showLooks(StringBuilder all, int entries, int fields) {
        for (int f = 0; f < fields && calls < MOST_CALLS - 7; f++) {
            for (int what = 0; what < 7; what++) {
                show(all, "look", entries, 200, f, what);
            }
        }
    }

    private void showParish(StringBuilder all, int entries) {
        for (int what = 0; what < 7; what++) {
            for (int year : new int[] {0, 8, 9, 10, 11, 12, 13, 14, 20, 200}) {
                show(all, "parish", entries, year, what);
            }
        }
        for (int corn = 0; corn < 3; corn++) {
            for (int year = 1; year < 24; year++) {
                show(all, "average", entries, year, corn);
            }
        }
        for (int owner = NONE; owner < 10; owner++) {
            show(all, "owed", entries, 14, owner);
        }
        for (int e = 0; e < entries; e++) {
            show(all, "cost", entries, e);
        }
        for (int i = 0; i < 10; i++) {
            show(all, "differ", entries / 2, entries, 200, i);
        }
    }

    /** What the next entries meet: a refused one must not stand in their way. */
    private void showNext(StringBuilder all, int entries, int fields) {
        show(all, "make", 8, 6, 2, 7);
        show(all, "entry", entries, 0);
        show(all, "entry", entries, 2);
        show(all, "entry", entries, 3);
        show(all, "part", 9, fields, 3);
        show(all, "entry", entries + 1, 3);
        show(all, "sell", 9, fields + 1, 8);
        show(all, "field", fields, 3);
        show(all, "field", fields + 1, 4);
        show(all, "price", 7, 1, 900);
        for (int k = entries; k <= entries + 4; k++) {
            show(all, "parish", k, 200, 0);
            show(all, "parish", k, 200, 3);
            show(all, "average", k, 8, 1);
            show(all, "look", k, 200, fields + 1, 2);
        }
    }
}
