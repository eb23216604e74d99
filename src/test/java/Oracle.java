import java.util.ArrayList;
import java.util.Collections;
import java.util.HashMap;
import java.util.HashSet;
import java.util.List;
import java.util.Map;
import java.util.Set;
import java.util.regex.Pattern;

/** The document once more, written as naively as can be, to compare the program with. */
final class Oracle {
    private static final int NONE = -1, UNKNOWN = -101, OUTSIDE = -102, STATE = -103, FULL = -104;
    private static final Pattern SQUARE = Pattern.compile("[0-9]{12};[hetsc][a-l](,[hetsc][a-l]){1,5}");

    /** One way that all can stand; a house that is down is on no plot of the map. */
    private static final class Stand {
        final List<Character> kinds = new ArrayList<>();
        final Map<Integer, Integer> plots = new HashMap<>();
        final List<Integer> row = new ArrayList<>();
        int front;
        int waits;

        Stand copy() {
            Stand other = new Stand();
            other.kinds.addAll(kinds);
            other.plots.putAll(plots);
            other.row.addAll(row);
            other.front = front;
            other.waits = waits;
            return other;
        }

        int at(int house) {
            return plots.getOrDefault(house, NONE);
        }

        private void put(int house) {
            List<Integer> free = new ArrayList<>();
            for (int plot = front + 1; plot <= front + 12; plot++) {
                if (!plots.containsValue(plot % 12)) {
                    free.add(plot % 12);
                }
            }
            front = free.get(kinds.get(house) == 's' ? 1 : 0);
            plots.put(house, front);
            row.remove(Integer.valueOf(house));
            row.add(house);
        }

        int night() {
            int house = row.get(0);
            boolean wasDown = !plots.containsKey(house);
            if (wasDown) {
                waits--;
                if (waits > 0) {
                    return 0;
                }
            } else if ("ec".indexOf(kinds.get(house)) >= 0) {
                plots.remove(house);
                waits = kinds.get(house) == 'e' ? 1 : 2;
                return 1;
            }
            int second = row.get(1);
            put(house);
            if (kinds.get(house) == 't') {
                put(second);
                return 2;
            }
            return 1;
        }

        String told() {
            return plots + " " + row + " " + front + " " + waits;
        }
    }

    private record Note(int house, int plot, int night) { }

    private final StringBuilder page = new StringBuilder();
    private String text;
    private Stand stand;
    private List<Integer> had = new ArrayList<>();
    private List<Note> wishes = new ArrayList<>();
    private List<Note> seen = new ArrayList<>();
    private int nights;
    private Stand keptStand;
    private List<Integer> keptHad;
    private List<Note> keptWishes;
    private List<Note> keptSeen;
    private int keptNights;
    private int squares;
    private int orders;

    private int houses() {
        return stand == null ? 0 : stand.kinds.size();
    }

    private boolean no(int house) {
        return house < 0 || house >= houses();
    }

    private static boolean noPlot(int plot) {
        return plot < 0 || plot > 11;
    }

    private int worth(int plot) {
        return plot == NONE ? 0 : text.charAt(plot) - '0';
    }

    private int like(int house) {
        return text.charAt(14 + 3 * house) - 'a';
    }

    int letter(int code) {
        if (code < 1 || code > 126) {
            return OUTSIDE;
        }
        if (page.length() == 32) {
            return FULL;
        }
        page.append((char) code);
        return page.length();
    }

    int blank() {
        int had = page.length();
        page.setLength(0);
        return had;
    }

    /** The longest beginning that some square has: it goes on as one of these six-house squares. */
    int fault() {
        for (int end = page.length(); end > 0; end--) {
            String begin = page.substring(0, end);
            String full = "000000000000;ha,ha,ha,ha,ha,ha";
            if (end <= full.length() && SQUARE.matcher(begin + full.substring(end)).matches()) {
                return end;
            }
        }
        return 0;
    }

    int square() {
        if (!SQUARE.matcher(page).matches()) {
            return STATE;
        }
        text = page.toString();
        page.setLength(0);
        stand = new Stand();
        had = new ArrayList<>();
        for (String house : text.substring(13).split(",")) {
            int number = houses();
            stand.kinds.add(house.charAt(0));
            stand.plots.put(number, number);
            stand.row.add(number);
            stand.front = number;
            had.add(0);
        }
        wishes.clear();
        seen.clear();
        nights = 0;
        keptStand = null;
        squares++;
        return houses();
    }

    int house(int house, int what) {
        if (no(house)) {
            return UNKNOWN;
        }
        return switch (what) {
            case 0 -> "hetsc".indexOf(stand.kinds.get(house));
            case 1 -> like(house);
            case 2 -> stand.at(house);
            case 3 -> stand.row.indexOf(house);
            case 4 -> had.get(house);
            case 5 -> kinds(house);
            case 6 -> look(house);
            case 7 -> trade().getOrDefault(house, NONE);
            default -> OUTSIDE;
        };
    }

    private Stand taken(int house, char kind) {
        Stand other = stand.copy();
        other.kinds.set(house, kind);
        return other;
    }

    private static Stand behind(Stand from, int nights) {
        Stand other = from.copy();
        for (int i = 0; i < nights; i++) {
            other.night();
        }
        return other;
    }

    private int kinds(int house) {
        int bits = 0;
        for (int kind = 0; kind < 5; kind++) {
            boolean can = true;
            for (Note note : seen) {
                can &= note.house != house
                    || behind(taken(house, "hetsc".charAt(kind)), note.night).at(house) == note.plot;
            }
            bits += can ? 1 << kind : 0;
        }
        return bits;
    }

    private int look(int house) {
        int bits = kinds(house);
        int best = NONE;
        int fewest = 99;
        for (int night = 1; night <= 40 && bits != 0; night++) {
            Map<Integer, Integer> groups = new HashMap<>();
            for (int kind = 0; kind < 5; kind++) {
                if ((bits & 1 << kind) != 0) {
                    groups.merge(behind(taken(house, "hetsc".charAt(kind)), night).at(house), 1, Integer::sum);
                }
            }
            int worst = Collections.max(groups.values());
            if (worst < fewest) {
                fewest = worst;
                best = night;
            }
        }
        return best;
    }

    private static int apart(int a, int b) {
        int steps = 0;
        while ((a + steps) % 12 != b && (b + steps) % 12 != a) {
            steps++;
        }
        return steps;
    }

    /** House by its rank of a plot: the less, the rather it would have it. */
    private int rank(int house, int plot) {
        return 12 * apart(like(house), plot) + plot;
    }

    /** Of all ways to share out the plots the one against which no group has better by its own plots. */
    private Map<Integer, Integer> trade() {
        List<Integer> who = new ArrayList<>(stand.plots.keySet());
        Collections.sort(who);
        for (List<Integer> givers : permutations(who)) {
            Map<Integer, Integer> gets = new HashMap<>();
            for (int i = 0; i < who.size(); i++) {
                gets.put(who.get(i), stand.at(givers.get(i)));
            }
            if (!isBlocked(who, gets)) {
                return gets;
            }
        }
        throw new IllegalStateException("no share-out stands");
    }

    /** Some group could share out its own plots so that none has worse and one has better. */
    private boolean isBlocked(List<Integer> who, Map<Integer, Integer> gets) {
        for (int bits = 1; bits < 1 << who.size(); bits++) {
            List<Integer> group = new ArrayList<>();
            for (int i = 0; i < who.size(); i++) {
                if ((bits & 1 << i) != 0) {
                    group.add(who.get(i));
                }
            }
            if (canBetter(group, gets, new HashSet<>(), 0, false)) {
                return true;
            }
        }
        return false;
    }

    private boolean canBetter(List<Integer> group, Map<Integer, Integer> gets, Set<Integer> used, int i, boolean better) {
        if (i == group.size()) {
            return better;
        }
        int house = group.get(i);
        int now = rank(house, gets.get(house));
        for (int giver : group) {
            int then = rank(house, stand.at(giver));
            if (then <= now && used.add(giver)) {
                if (canBetter(group, gets, used, i + 1, better || then < now)) {
                    return true;
                }
                used.remove(giver);
            }
        }
        return false;
    }

    /** All orders, the first by numbers first. */
    private static List<List<Integer>> permutations(List<Integer> of) {
        if (of.isEmpty()) {
            return List.of(List.of());
        }
        List<List<Integer>> all = new ArrayList<>();
        for (Integer first : of) {
            List<Integer> rest = new ArrayList<>(of);
            rest.remove(first);
            for (List<Integer> tail : permutations(rest)) {
                List<Integer> one = new ArrayList<>(List.of(first));
                one.addAll(tail);
                all.add(one);
            }
        }
        return all;
    }

    int as(int house, int kind) {
        if (no(house)) {
            return UNKNOWN;
        }
        if (kind < 0 || kind > 4) {
            return OUTSIDE;
        }
        String such = List.of("hetsc", "ec", "t", "s", "c").get(kind);
        return such.indexOf(stand.kinds.get(house)) >= 0 ? house : NONE;
    }

    int plot(int plot, int what) {
        if (stand == null || noPlot(plot)) {
            return UNKNOWN;
        }
        if (what == 0) {
            return worth(plot);
        }
        int found = what == 1 ? NONE : 0;
        for (int house = 0; house < houses(); house++) {
            if (what == 1 && stand.at(house) == plot) {
                found = house;
            }
            if (what == 2 && like(house) == plot) {
                found++;
            }
        }
        return what == 1 || what == 2 ? found : OUTSIDE;
    }

    int night() {
        if (stand == null) {
            return STATE;
        }
        if (nights == 999) {
            return FULL;
        }
        int moved = stand.night();
        snow();
        return moved;
    }

    int snow() {
        if (stand == null) {
            return STATE;
        }
        if (nights == 999) {
            return FULL;
        }
        for (int house = 0; house < houses(); house++) {
            had.set(house, had.get(house) + worth(stand.at(house)));
        }
        return ++nights;
    }

    int build(int house, int kind) {
        if (no(house)) {
            return UNKNOWN;
        }
        if (kind < 0 || kind > 4) {
            return OUTSIDE;
        }
        if (stand.at(house) == NONE) {
            return STATE;
        }
        return "hetsc".indexOf(stand.kinds.set(house, "hetsc".charAt(kind)));
    }

    int swap(int a, int b) {
        if (no(a) || no(b) || a == b) {
            return UNKNOWN;
        }
        if (stand.at(a) == NONE || stand.at(b) == NONE) {
            return STATE;
        }
        stand.plots.put(b, stand.plots.put(a, stand.at(b)));
        return stand.at(a);
    }

    int where(int house, int nights) {
        if (no(house)) {
            return UNKNOWN;
        }
        if (nights < 0 || nights > 400) {
            return OUTSIDE;
        }
        return behind(stand, nights).at(house);
    }

    int when(int house, int plot) {
        if (no(house) || noPlot(plot)) {
            return UNKNOWN;
        }
        Stand then = stand.copy();
        for (int night = 0; night < 201; night++, then.night()) {
            if (then.at(house) == plot) {
                return night;
            }
        }
        return NONE;
    }

    int neighbours(int a, int b) {
        if (no(a) || no(b) || a == b) {
            return UNKNOWN;
        }
        Stand then = stand.copy();
        for (int night = 0; night < 201; night++, then.night()) {
            int p = then.at(a);
            int q = then.at(b);
            if (p != NONE && q != NONE && ((p + 1) % 12 == q || (q + 1) % 12 == p)) {
                return night;
            }
        }
        return NONE;
    }

    int again() {
        if (stand == null) {
            return STATE;
        }
        Stand then = stand.copy();
        for (int night = 1; night < 401; night++) {
            then.night();
            if (then.told().equals(stand.told())) {
                return night;
            }
        }
        return NONE;
    }

    /** All plots that the carrier can be on, night by night. */
    int post(int house, int plot) {
        if (no(house) || noPlot(plot)) {
            return UNKNOWN;
        }
        Set<Integer> reached = new HashSet<>(List.of(plot));
        Stand then = stand.copy();
        for (int night = 0; night < 101; night++, then.night()) {
            if (reached.contains(then.at(house))) {
                return night;
            }
            for (int from : List.copyOf(reached)) {
                reached.add((from + 1) % 12);
                reached.add((from + 11) % 12);
            }
        }
        return NONE;
    }

    int will(int house, int nights) {
        if (no(house)) {
            return UNKNOWN;
        }
        if (nights < 1 || nights > 60) {
            return OUTSIDE;
        }
        int sum = 0;
        for (int night = 1; night <= nights; night++) {
            sum += worth(behind(stand, night).at(house));
        }
        return sum;
    }

    int rings() {
        if (stand == null) {
            return STATE;
        }
        Map<Integer, Integer> gets = trade();
        Set<Integer> gone = new HashSet<>();
        int rings = 0;
        for (int house : gets.keySet()) {
            int length = 0;
            for (int on = house; gone.add(on); length++) {
                on = plot(gets.get(on), 1);
            }
            rings += length > 1 ? 1 : 0;
        }
        return rings;
    }

    int wish(int house, int plot, int night) {
        if (no(house) || noPlot(plot)) {
            return UNKNOWN;
        }
        if (night < 1 || night > 40) {
            return OUTSIDE;
        }
        if (wishes.size() == 5) {
            return FULL;
        }
        wishes.add(new Note(house, plot, night));
        return wishes.size();
    }

    int give() {
        int were = wishes.size();
        wishes.clear();
        return were;
    }

    int order(int what) {
        if (what != 0 && (what < 10 || what > 15)) {
            return OUTSIDE;
        }
        if (stand == null || orders == 8) {
            return STATE;
        }
        orders++;
        List<Integer> all = new ArrayList<>(stand.row);
        Collections.sort(all);
        int most = -1;
        List<Integer> best = null;
        for (List<Integer> row : permutations(all)) {
            int granted = granted(row);
            if (granted > most) {
                most = granted;
                best = row;
            }
        }
        return what == 0 ? most : what - 10 < best.size() ? best.get(what - 10) : NONE;
    }

    private int granted(List<Integer> row) {
        Stand anew = new Stand();
        anew.kinds.addAll(stand.kinds);
        for (int house : row) {
            anew.front = anew.row.size();
            anew.plots.put(house, anew.front);
            anew.row.add(house);
        }
        int granted = 0;
        for (Note wish : wishes) {
            granted += behind(anew, wish.night).at(wish.house) == wish.plot ? 1 : 0;
        }
        return granted;
    }

    int see(int house, int plot, int night) {
        if (no(house) || (plot != NONE && noPlot(plot))) {
            return UNKNOWN;
        }
        if (night < 1 || night > 40) {
            return OUTSIDE;
        }
        if (seen.size() == 6) {
            return FULL;
        }
        seen.add(new Note(house, plot, night));
        return seen.size();
    }

    int forget() {
        int were = seen.size();
        seen.clear();
        return were;
    }

    int years(int nights, int seed, int what) {
        if (nights < 1 || nights > 60 || seed < 0 || what < 0 || what > 2) {
            return OUTSIDE;
        }
        if (stand == null) {
            return STATE;
        }
        Stand then = stand.copy();
        long next = seed;
        int dry = 0;
        int worth = 0;
        for (int night = 0; night < nights; night++) {
            next = Math.floorMod(1103515245L * next + 12345, 1L << 31);
            if (next / 65536 % 4 != 0) {
                then.night();
                dry++;
            }
            for (int house = 0; house < houses(); house++) {
                worth += worth(then.at(house));
            }
        }
        return what == 0 ? dry : what == 1 ? worth : (int) next;
    }

    int image() {
        if (stand == null) {
            return STATE;
        }
        keptStand = stand.copy();
        keptHad = new ArrayList<>(had);
        keptWishes = new ArrayList<>(wishes);
        keptSeen = new ArrayList<>(seen);
        keptNights = nights;
        return nights;
    }

    int restore() {
        if (keptStand == null) {
            return STATE;
        }
        stand = keptStand.copy();
        had = new ArrayList<>(keptHad);
        wishes = new ArrayList<>(keptWishes);
        seen = new ArrayList<>(keptSeen);
        nights = keptNights;
        return nights;
    }

    int count(int what) {
        if (what < 0 || what > 12) {
            return OUTSIDE;
        }
        if (what >= 10) {
            return what == 10 ? page.length() : what == 11 ? squares : orders;
        }
        if (stand == null) {
            return 0;
        }
        int now = 0;
        int before = 0;
        for (int house = 0; house < houses(); house++) {
            now += worth(stand.at(house));
            before += had.get(house);
        }
        int[] told = {houses(), stand.plots.size(), stand.front, stand.row.get(0), stand.waits, nights,
            now, before, wishes.size(), seen.size()};
        return told[what];
    }

    long digest() {
        List<Integer> told = new ArrayList<>();
        for (int house = 0; house < houses(); house++) {
            for (int what = 0; what < 8; what++) {
                told.add(house(house, what));
            }
            told.add(where(house, 5));
            told.add(will(house, 9));
        }
        for (int plot = 0; plot < 12 && stand != null; plot++) {
            for (int what = 0; what < 3; what++) {
                told.add(plot(plot, what));
            }
        }
        if (stand != null) {
            told.add(again());
            told.add(rings());
        }
        for (char letter : page.toString().toCharArray()) {
            told.add((int) letter);
        }
        for (int what = 0; what < 13; what++) {
            told.add(count(what));
        }
        long h = 1193;
        for (int number : told) {
            h = 31 * h + number;
        }
        return h;
    }
}
