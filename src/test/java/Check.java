import java.util.LinkedHashMap;
import java.util.Map;

/** Counts answers that are not as due, and makes towns from texts. */
final class Check {
    private final Map<String, Integer> answersTo = new LinkedHashMap<>();
    private String sentence;
    private int calls;
    private int wrong;

    /** What follows is due by this sentence of the document; each has a test of its own. */
    void sentence(String told) {
        if (answersTo.containsKey(told)) {
            throw new IllegalArgumentException("told twice: " + told);
        }
        sentence = told;
        answersTo.put(told, 0);
    }

    void due(String call, long got, long want) {
        calls++;
        if (sentence != null) {
            answersTo.merge(sentence, 1, Integer::sum);
        }
        if (got != want) {
            wrong++;
            System.out.println((sentence == null ? "" : "[" + sentence + "] ")
                + call + " answered " + got + ", due is " + want);
        }
    }

    void dueAll(String call, long[] got, long... want) {
        due(call + ".length", got.length, want.length);
        for (int i = 0; i < got.length && i < want.length; i++) {
            due(call + "[" + i + "]", got[i], want[i]);
        }
    }

    void end() {
        for (Map.Entry<String, Integer> told : answersTo.entrySet()) {
            if (told.getValue() == 0) {
                wrong++;
                System.out.println("[" + told.getKey() + "] has no answer");
            }
        }
        System.out.println((sentence == null ? "" : answersTo.size() + " sentences, ")
            + calls + " answers, " + wrong + " not as due");
        if (wrong != 0) {
            System.exit(1);
        }
    }

    static void write(TurningTown town, String text) {
        for (int i = 0; i < text.length(); i++) {
            town.letter(text.charAt(i));
        }
    }

    static TurningTown town(String text) {
        TurningTown town = new TurningTown();
        write(town, text);
        if (town.square() < 0) {
            throw new IllegalArgumentException("no square: " + text);
        }
        return town;
    }

    static void nights(TurningTown town, int nights) {
        for (int i = 0; i < nights; i++) {
            town.night();
        }
    }

    /** The plots of all houses. */
    static long[] plots(TurningTown town) {
        long[] plots = new long[town.count(0)];
        for (int house = 0; house < plots.length; house++) {
            plots[house] = town.house(house, 2);
        }
        return plots;
    }

    /** What all houses have had. */
    static long[] had(TurningTown town) {
        long[] had = new long[town.count(0)];
        for (int house = 0; house < had.length; house++) {
            had[house] = town.house(house, 4);
        }
        return had;
    }

    /** The houses in the order of the row. */
    static long[] row(TurningTown town) {
        long[] row = new long[town.count(0)];
        for (int house = 0; house < row.length; house++) {
            row[town.house(house, 3)] = house;
        }
        return row;
    }

    /** Where a house is behind each of so many nights, from now on. */
    static long[] track(TurningTown town, int house, int nights) {
        long[] track = new long[nights + 1];
        for (int night = 0; night <= nights; night++) {
            track[night] = town.where(house, night);
        }
        return track;
    }
}
