/**
 * A square of twelve plots whose houses are moved round it, the first of the row each night.
 * The promises are numbered in shared/DOC.md; refusals are answered as numbers and change nothing.
 */
public final class TurningTown {
    public static final int NONE = -1, UNKNOWN = -101, OUTSIDE = -102, STATE = -103, FULL = -104;

    private static final int PLOTS = 12;
    private static final int FEWEST_HOUSES = 2;
    private static final int MOST_HOUSES = 6;
    private static final int MOST_LETTERS = 32;
    private static final int LETTERS_OF_A_HOUSE = 3;

    private static final int HOUSE = 0;
    private static final int HEAVY = 1;
    private static final int TWIN = 2;
    private static final int SHOP = 3;
    private static final int CHAPEL = 4;
    private static final int KINDS = 5;
    private static final String KIND_LETTERS = "hetsc";
    private static final int[] BY_NUMBERS = {0, 1, 2, 3, 4, 5};

    private static final int MOST_NIGHTS = 999;
    private static final int LAST_WHERE = 400;
    private static final int LAST_WHEN = 200;
    private static final int LAST_AGAIN = 400;
    private static final int LAST_POST = 100;
    private static final int LAST_WILL = 60;
    private static final int LAST_YEARS = 60;
    private static final int LAST_NOTE = 40;

    private static final int MOST_WISHES = 5;
    private static final int MOST_SEEN = 6;
    private static final int MOST_ORDERS = 8;
    private static final int ORDERS_OF_SIX = 720;
    private static final int FIRST_OF_ORDER = 10;

    private static final int HOUSE_TELLS = 8;
    private static final int PLOT_TELLS = 3;
    private static final int YEARS_TELL = 3;
    private static final int COUNT_TELLS = 13;

    private final Page page = new Page();
    private final Ground ground = new Ground();
    private final Story now = new Story();
    private final Story kept = new Story();
    private final Town ahead = new Town();
    private final Trade trade = new Trade();
    private final Plan plan = new Plan();
    private final Guess guess = new Guess();
    private boolean isKept;
    private int squaresRead;
    private int ordersDone;

    public TurningTown() {
    }

    // ---- the square

    public int letter(int code) {
        if (code < 1 || code > 126) {
            return OUTSIDE;
        }
        if (page.size >= MOST_LETTERS) {
            return FULL;
        }
        page.write(code);
        return page.size;
    }

    public int blank() {
        int had = page.size;
        page.size = 0;
        return had;
    }

    public int fault() {
        return page.firstWrong();
    }

    public int square() {
        if (!page.isSquare()) {
            return STATE;
        }
        ground.readFrom(page);
        now.beginFrom(page);
        page.size = 0;
        isKept = false;
        squaresRead++;
        return ground.houses;
    }

    public int house(int house, int what) {
        if (!isHouse(house)) {
            return UNKNOWN;
        }
        switch (what) {
            case 0:
                return now.town.kindOf[house];
            case 1:
                return ground.liked[house];
            case 2:
                return now.town.plotOf[house];
            case 3:
                return now.town.placeInRow(house);
            case 4:
                return now.had[house];
            case 5:
                return guess.kindsOf(house, now);
            case 6:
                return guess.nightToLook(house, now);
            case 7:
                trade.close(now.town, ground);
                return trade.gets[house];
            default:
                return OUTSIDE;
        }
    }

    public int as(int house, int kind) {
        if (!isHouse(house)) {
            return UNKNOWN;
        }
        if (!isKind(kind)) {
            return OUTSIDE;
        }
        int own = now.town.kindOf[house];
        boolean isSuch = kind == HOUSE || kind == own || (kind == HEAVY && own == CHAPEL);
        return isSuch ? house : NONE;
    }

    public int plot(int plot, int what) {
        if (!hasSquare() || !isPlot(plot)) {
            return UNKNOWN;
        }
        switch (what) {
            case 0:
                return ground.worth[plot];
            case 1:
                return now.town.standsOn[plot];
            case 2:
                return ground.likersOf(plot);
            default:
                return OUTSIDE;
        }
    }

    // ---- what is done

    public int night() {
        if (!hasSquare()) {
            return STATE;
        }
        if (now.nights >= MOST_NIGHTS) {
            return FULL;
        }
        int moved = now.town.turn();
        now.endNight(ground);
        return moved;
    }

    public int snow() {
        if (!hasSquare()) {
            return STATE;
        }
        if (now.nights >= MOST_NIGHTS) {
            return FULL;
        }
        now.endNight(ground);
        return now.nights;
    }

    public int build(int house, int kind) {
        if (!isHouse(house)) {
            return UNKNOWN;
        }
        if (!isKind(kind)) {
            return OUTSIDE;
        }
        if (now.town.isDown(house)) {
            return STATE;
        }
        int before = now.town.kindOf[house];
        now.town.kindOf[house] = kind;
        return before;
    }

    public int swap(int a, int b) {
        if (!areTwoHouses(a, b)) {
            return UNKNOWN;
        }
        if (now.town.isDown(a) || now.town.isDown(b)) {
            return STATE;
        }
        now.town.exchange(a, b);
        return now.town.plotOf[a];
    }

    // ---- what will be

    public int where(int house, int nights) {
        if (!isHouse(house)) {
            return UNKNOWN;
        }
        if (nights < 0 || nights > LAST_WHERE) {
            return OUTSIDE;
        }
        ahead.copyFrom(now.town);
        for (int night = 0; night < nights; night++) {
            ahead.turn();
        }
        return ahead.plotOf[house];
    }

    public int when(int house, int plot) {
        if (!isHouse(house) || !isPlot(plot)) {
            return UNKNOWN;
        }
        ahead.copyFrom(now.town);
        for (int night = 0; night <= LAST_WHEN; night++) {
            if (ahead.plotOf[house] == plot) {
                return night;
            }
            ahead.turn();
        }
        return NONE;
    }

    public int neighbours(int a, int b) {
        if (!areTwoHouses(a, b)) {
            return UNKNOWN;
        }
        ahead.copyFrom(now.town);
        for (int night = 0; night <= LAST_WHEN; night++) {
            if (ahead.areBeside(a, b)) {
                return night;
            }
            ahead.turn();
        }
        return NONE;
    }

    public int again() {
        if (!hasSquare()) {
            return STATE;
        }
        ahead.copyFrom(now.town);
        for (int night = 1; night <= LAST_AGAIN; night++) {
            ahead.turn();
            if (ahead.standsLike(now.town)) {
                return night;
            }
        }
        return NONE;
    }

    public int post(int house, int plot) {
        if (!isHouse(house) || !isPlot(plot)) {
            return UNKNOWN;
        }
        ahead.copyFrom(now.town);
        for (int night = 0; night <= LAST_POST; night++) {
            if (!ahead.isDown(house) && wayRound(plot, ahead.plotOf[house]) <= night) {
                return night;
            }
            ahead.turn();
        }
        return NONE;
    }

    public int will(int house, int nights) {
        if (!isHouse(house)) {
            return UNKNOWN;
        }
        if (nights < 1 || nights > LAST_WILL) {
            return OUTSIDE;
        }
        ahead.copyFrom(now.town);
        int worth = 0;
        for (int night = 0; night < nights; night++) {
            ahead.turn();
            worth += ground.worthUnder(ahead, house);
        }
        return worth;
    }

    public int rings() {
        if (!hasSquare()) {
            return STATE;
        }
        trade.close(now.town, ground);
        return trade.rings;
    }

    // ---- wishes

    public int wish(int house, int plot, int night) {
        if (!isHouse(house) || !isPlot(plot)) {
            return UNKNOWN;
        }
        if (!isNoteNight(night)) {
            return OUTSIDE;
        }
        return now.wishes.add(house, plot, night);
    }

    public int give() {
        return now.wishes.clear();
    }

    public int order(int what) {
        int place = what - FIRST_OF_ORDER;
        boolean isPlace = what >= FIRST_OF_ORDER && place < MOST_HOUSES;
        if (what != 0 && !isPlace) {
            return OUTSIDE;
        }
        if (!hasSquare() || ordersDone >= MOST_ORDERS) {
            return STATE;
        }
        ordersDone++;
        plan.make(now.town, now.wishes);
        if (!isPlace) {
            return plan.most;
        }
        return place < ground.houses ? plan.best[place] : NONE;
    }

    // ---- what is seen

    public int see(int house, int plot, int night) {
        if (!isHouse(house) || !(isPlot(plot) || plot == NONE)) {
            return UNKNOWN;
        }
        if (!isNoteNight(night)) {
            return OUTSIDE;
        }
        return now.seen.add(house, plot, night);
    }

    public int forget() {
        return now.seen.clear();
    }

    public int years(int nights, int seed, int what) {
        if (nights < 1 || nights > LAST_YEARS || seed < 0 || what < 0 || what >= YEARS_TELL) {
            return OUTSIDE;
        }
        if (!hasSquare()) {
            return STATE;
        }
        ahead.copyFrom(now.town);
        int next = seed;
        int dry = 0;
        int worth = 0;
        for (int night = 0; night < nights; night++) {
            next = seedBehind(next);
            if (!snowsBy(next)) {
                dry++;
                ahead.turn();
            }
            worth += ground.worthUnderAll(ahead);
        }
        if (what == 0) {
            return dry;
        }
        return what == 1 ? worth : next;
    }

    // ---- what is told of all

    public int image() {
        if (!hasSquare()) {
            return STATE;
        }
        kept.copyFrom(now);
        isKept = true;
        return now.nights;
    }

    public int restore() {
        if (!isKept) {
            return STATE;
        }
        now.copyFrom(kept);
        return now.nights;
    }

    public int count(int what) {
        switch (what) {
            case 0:
                return ground.houses;
            case 1:
                return now.town.standing();
            case 2:
                return now.town.front;
            case 3:
                return now.town.row[0];
            case 4:
                return now.town.downFor;
            case 5:
                return now.nights;
            case 6:
                return ground.worthUnderAll(now.town);
            case 7:
                return now.hadByAll();
            case 8:
                return now.wishes.size;
            case 9:
                return now.seen.size;
            case 10:
                return page.size;
            case 11:
                return squaresRead;
            case 12:
                return ordersDone;
            default:
                return OUTSIDE;
        }
    }

    public long digest() {
        long sum = 1193L;
        for (int house = 0; house < ground.houses; house++) {
            for (int what = 0; what < HOUSE_TELLS; what++) {
                sum = 31L * sum + house(house, what);
            }
            sum = 31L * sum + where(house, 5);
            sum = 31L * sum + will(house, 9);
        }
        // A refusal of again() or rings() is no number of theirs, and does not go in.
        if (hasSquare()) {
            sum = withPlots(sum);
            sum = 31L * sum + again();
            sum = 31L * sum + rings();
        }
        for (int place = 0; place < page.size; place++) {
            sum = 31L * sum + page.letters[place];
        }
        for (int what = 0; what < COUNT_TELLS; what++) {
            sum = 31L * sum + count(what);
        }
        return sum;
    }

    private long withPlots(long before) {
        long sum = before;
        for (int plot = 0; plot < PLOTS; plot++) {
            for (int what = 0; what < PLOT_TELLS; what++) {
                sum = 31L * sum + plot(plot, what);
            }
        }
        return sum;
    }

    private boolean hasSquare() {
        return ground.houses > 0;
    }

    private boolean isHouse(int number) {
        return number >= 0 && number < ground.houses;
    }

    private boolean areTwoHouses(int a, int b) {
        return isHouse(a) && isHouse(b) && a != b;
    }

    private static boolean isPlot(int number) {
        return number >= 0 && number < PLOTS;
    }

    private static boolean isKind(int number) {
        return number >= 0 && number < KINDS;
    }

    private static boolean isNoteNight(int night) {
        return night >= 1 && night <= LAST_NOTE;
    }

    /** The shorter way round the ring between two plots. */
    private static int wayRound(int a, int b) {
        int way = Math.abs(a - b);
        return Math.min(way, PLOTS - way);
    }

    private static int seedBehind(int seed) {
        return (int) ((1103515245L * seed + 12345L) & 0x7fffffffL);
    }

    private static boolean snowsBy(int seed) {
        return seed / 65536 % 4 == 0;
    }

    /** The letters that come before they are read as a square. */
    private static final class Page {
        final int[] letters = new int[MOST_LETTERS];
        int size;

        void write(int code) {
            if (size < MOST_LETTERS) {
                letters[size] = code;
                size++;
            }
        }

        int firstWrong() {
            for (int place = 0; place < size; place++) {
                if (!fits(place, letters[place])) {
                    return place;
                }
            }
            return size;
        }

        boolean isSquare() {
            int rest = size - PLOTS;
            return rest >= FEWEST_HOUSES * LETTERS_OF_A_HOUSE
                && rest % LETTERS_OF_A_HOUSE == 0
                && firstWrong() == size;
        }

        int houses() {
            return Math.min((size - PLOTS) / LETTERS_OF_A_HOUSE, MOST_HOUSES);
        }

        int worthWritten(int plot) {
            return letters[plot] - '0';
        }

        int kindWritten(int house) {
            return kindBy(letters[PLOTS + LETTERS_OF_A_HOUSE * house + 1]);
        }

        int likeWritten(int house) {
            return letters[PLOTS + LETTERS_OF_A_HOUSE * house + 2] - 'a';
        }

        /** A house has three letters, counted with the sign ahead of it. */
        private static boolean fits(int place, int code) {
            if (place < PLOTS) {
                return code >= '0' && code <= '9';
            }
            if (place == PLOTS) {
                return code == ';';
            }
            if (place >= PLOTS + LETTERS_OF_A_HOUSE * MOST_HOUSES) {
                return false;
            }
            switch ((place - PLOTS) % LETTERS_OF_A_HOUSE) {
                case 1:
                    return kindBy(code) != NONE;
                case 2:
                    return code >= 'a' && code <= 'l';
                default:
                    return code == ',';
            }
        }

        private static int kindBy(int code) {
            return KIND_LETTERS.indexOf((char) code);
        }
    }

    /** What no night changes: what the plots are worth, and who likes which. */
    private static final class Ground {
        final int[] worth = new int[PLOTS];
        final int[] liked = new int[MOST_HOUSES];
        int houses;

        void readFrom(Page page) {
            houses = page.houses();
            for (int plot = 0; plot < PLOTS; plot++) {
                worth[plot] = page.worthWritten(plot);
            }
            for (int house = 0; house < houses; house++) {
                liked[house] = page.likeWritten(house);
            }
        }

        int likersOf(int plot) {
            int likers = 0;
            for (int house = 0; house < houses; house++) {
                if (liked[house] == plot) {
                    likers++;
                }
            }
            return likers;
        }

        int worthUnder(Town town, int house) {
            return town.isDown(house) ? 0 : worth[town.plotOf[house]];
        }

        int worthUnderAll(Town town) {
            int sum = 0;
            for (int house = 0; house < houses; house++) {
                sum += worthUnder(town, house);
            }
            return sum;
        }
    }

    /** Who stands where, and who is moved next; copies of it are let run to foretell. */
    private static final class Town {
        final int[] kindOf = new int[MOST_HOUSES];
        final int[] plotOf = new int[MOST_HOUSES];
        final int[] row = new int[MOST_HOUSES];
        final int[] standsOn = new int[PLOTS];
        int houses;
        int front;
        int downFor;

        /** Houses stand in the row's order, from plot 0 on; their kinds are set by others. */
        void beginWith(int[] order, int count) {
            houses = Math.min(count, Math.min(order.length, MOST_HOUSES));
            front = houses - 1;
            downFor = 0;
            for (int plot = 0; plot < PLOTS; plot++) {
                standsOn[plot] = NONE;
            }
            for (int place = 0; place < houses; place++) {
                int house = order[place];
                row[place] = house;
                plotOf[house] = place;
                standsOn[place] = house;
            }
        }

        void copyFrom(Town other) {
            houses = other.houses;
            front = other.front;
            downFor = other.downFor;
            System.arraycopy(other.kindOf, 0, kindOf, 0, MOST_HOUSES);
            System.arraycopy(other.plotOf, 0, plotOf, 0, MOST_HOUSES);
            System.arraycopy(other.row, 0, row, 0, MOST_HOUSES);
            System.arraycopy(other.standsOn, 0, standsOn, 0, PLOTS);
        }

        /** One night without snow: how many were moved, or taken down. */
        int turn() {
            int first = row[0];
            if (downFor > 1) {
                downFor--;
                return 0;
            }
            if (downFor == 0 && nightsFor(kindOf[first]) > 1) {
                takeDown(first);
                return 1;
            }
            downFor = 0;
            moveFirst();
            if (kindOf[first] != TWIN) {
                return 1;
            }
            moveFirst();
            return 2;
        }

        private static int nightsFor(int kind) {
            if (kind == CHAPEL) {
                return 3;
            }
            return kind == HEAVY ? 2 : 1;
        }

        private void takeDown(int house) {
            leavePlot(house);
            downFor = nightsFor(kindOf[house]) - 1;
        }

        /** It stands on its own plot while a free one is sought, so that its own is never free. */
        private void moveFirst() {
            int first = row[0];
            int free = freeBeyond(front);
            if (kindOf[first] == SHOP) {
                free = freeBeyond(free);
            }
            leavePlot(first);
            plotOf[first] = free;
            standsOn[free] = first;
            front = free;
            for (int place = 1; place < houses; place++) {
                row[place - 1] = row[place];
            }
            row[houses - 1] = first;
        }

        private void leavePlot(int house) {
            int own = plotOf[house];
            if (own != NONE) {
                standsOn[own] = NONE;
                plotOf[house] = NONE;
            }
        }

        private int freeBeyond(int plot) {
            for (int step = 1; step < PLOTS; step++) {
                int next = (plot + step) % PLOTS;
                if (standsOn[next] == NONE) {
                    return next;
                }
            }
            return plot;
        }

        void exchange(int a, int b) {
            int plotOfA = plotOf[a];
            plotOf[a] = plotOf[b];
            plotOf[b] = plotOfA;
            standsOn[plotOf[a]] = a;
            standsOn[plotOf[b]] = b;
        }

        boolean isDown(int house) {
            return plotOf[house] == NONE;
        }

        boolean areBeside(int a, int b) {
            return !isDown(a) && !isDown(b) && wayRound(plotOf[a], plotOf[b]) == 1;
        }

        int placeInRow(int house) {
            for (int place = 0; place < houses; place++) {
                if (row[place] == house) {
                    return place;
                }
            }
            return NONE;
        }

        int standing() {
            int standing = 0;
            for (int house = 0; house < houses; house++) {
                if (!isDown(house)) {
                    standing++;
                }
            }
            return standing;
        }

        boolean standsLike(Town other) {
            if (front != other.front || downFor != other.downFor) {
                return false;
            }
            for (int i = 0; i < houses; i++) {
                if (plotOf[i] != other.plotOf[i] || row[i] != other.row[i]) {
                    return false;
                }
            }
            return true;
        }
    }

    /** Wishes, or what is seen: a house on a plot (or down) behind a night. */
    private static final class Notes {
        final int[] house;
        final int[] plot;
        final int[] night;
        int size;

        Notes(int most) {
            int room = Math.max(0, most);
            house = new int[room];
            plot = new int[room];
            night = new int[room];
        }

        int add(int ofHouse, int onPlot, int behind) {
            if (size >= house.length) {
                return FULL;
            }
            house[size] = ofHouse;
            plot[size] = onPlot;
            night[size] = behind;
            size++;
            return size;
        }

        int clear() {
            int before = size;
            size = 0;
            return before;
        }

        void copyFrom(Notes other) {
            size = Math.min(other.size, house.length);
            System.arraycopy(other.house, 0, house, 0, size);
            System.arraycopy(other.plot, 0, plot, 0, size);
            System.arraycopy(other.night, 0, night, 0, size);
        }

        int lastNight() {
            int last = 0;
            for (int i = 0; i < size; i++) {
                last = Math.max(last, night[i]);
            }
            return last;
        }

        /** How many of a night's notes are true of the town as it stands behind that night. */
        int trueBehind(int behind, Town town) {
            int hits = 0;
            for (int i = 0; i < size; i++) {
                if (night[i] == behind && town.plotOf[house[i]] == plot[i]) {
                    hits++;
                }
            }
            return hits;
        }
    }

    /** All that an image keeps. */
    private static final class Story {
        final Town town = new Town();
        final int[] had = new int[MOST_HOUSES];
        final Notes wishes = new Notes(MOST_WISHES);
        final Notes seen = new Notes(MOST_SEEN);
        int nights;

        void beginFrom(Page page) {
            int houses = page.houses();
            for (int house = 0; house < houses; house++) {
                had[house] = 0;
                town.kindOf[house] = page.kindWritten(house);
            }
            town.beginWith(BY_NUMBERS, houses);
            wishes.clear();
            seen.clear();
            nights = 0;
        }

        void copyFrom(Story other) {
            town.copyFrom(other.town);
            System.arraycopy(other.had, 0, had, 0, MOST_HOUSES);
            wishes.copyFrom(other.wishes);
            seen.copyFrom(other.seen);
            nights = other.nights;
        }

        void endNight(Ground ground) {
            for (int house = 0; house < town.houses; house++) {
                had[house] += ground.worthUnder(town, house);
            }
            nights++;
        }

        int hadByAll() {
            int sum = 0;
            for (int house = 0; house < town.houses; house++) {
                sum += had[house];
            }
            return sum;
        }
    }

    /** Trades of plots in rings: who comes to itself by pointing has what it points to, and is out. */
    private static final class Trade {
        final int[] gets = new int[MOST_HOUSES];
        final int[] pointsTo = new int[MOST_HOUSES];
        final boolean[] isLeft = new boolean[MOST_HOUSES];
        int rings;

        void close(Town town, Ground ground) {
            rings = 0;
            for (int house = 0; house < town.houses; house++) {
                gets[house] = NONE;
                isLeft[house] = !town.isDown(house);
            }
            // Each round at least one house is out, so there are no more rounds than houses.
            for (int round = 0; round < town.houses; round++) {
                int start = firstLeft(town.houses);
                if (start == NONE) {
                    return;
                }
                pointAll(town, ground);
                closeRing(onRing(start, town.houses), town);
            }
        }

        private int firstLeft(int houses) {
            for (int house = 0; house < houses; house++) {
                if (isLeft[house]) {
                    return house;
                }
            }
            return NONE;
        }

        private void pointAll(Town town, Ground ground) {
            for (int house = 0; house < town.houses; house++) {
                if (isLeft[house]) {
                    pointsTo[house] = nearestOwner(town, ground.liked[house], house);
                }
            }
        }

        /** Plots are tried from the least, so that of like ones the least is kept. */
        private int nearestOwner(Town town, int liked, int self) {
            int nearest = self;
            int least = PLOTS;
            for (int plot = 0; plot < PLOTS; plot++) {
                int owner = town.standsOn[plot];
                if (owner != NONE && isLeft[owner] && wayRound(plot, liked) < least) {
                    least = wayRound(plot, liked);
                    nearest = owner;
                }
            }
            return nearest;
        }

        /** Behind as many steps as there are houses one is surely on a ring. */
        private int onRing(int start, int houses) {
            int house = start;
            for (int step = 0; step < houses; step++) {
                house = pointsTo[house];
            }
            return house;
        }

        private void closeRing(int start, Town town) {
            int length = 0;
            int house = start;
            do {
                int next = pointsTo[house];
                gets[house] = town.plotOf[next];
                isLeft[house] = false;
                house = next;
                length++;
            } while (house != start && length < MOST_HOUSES);
            if (length > 1) {
                rings++;
            }
        }
    }

    /** In which order to begin, so that most wishes come true. */
    private static final class Plan {
        final int[] best = new int[MOST_HOUSES];
        final int[] trial = new int[MOST_HOUSES];
        final Town town = new Town();
        int most;

        /** Orders are tried from the first by numbers, so that of like ones the first is kept. */
        void make(Town now, Notes wishes) {
            System.arraycopy(BY_NUMBERS, 0, trial, 0, MOST_HOUSES);
            town.copyFrom(now);
            most = NONE;
            for (int tries = 0; tries < ORDERS_OF_SIX; tries++) {
                int granted = grantedBy(now.houses, wishes);
                if (granted > most) {
                    most = granted;
                    System.arraycopy(trial, 0, best, 0, MOST_HOUSES);
                }
                if (most == wishes.size || !goToNextTrial(now.houses)) {
                    return;
                }
            }
        }

        private int grantedBy(int houses, Notes wishes) {
            town.beginWith(trial, houses);
            int last = wishes.lastNight();
            int granted = 0;
            for (int night = 1; night <= last; night++) {
                town.turn();
                granted += wishes.trueBehind(night, town);
            }
            return granted;
        }

        /** The next order by numbers; false behind the last one. */
        private boolean goToNextTrial(int houses) {
            int rise = houses - 2;
            while (rise >= 0 && trial[rise] > trial[rise + 1]) {
                rise--;
            }
            if (rise < 0) {
                return false;
            }
            int above = houses - 1;
            while (above > rise && trial[above] < trial[rise]) {
                above--;
            }
            exchange(rise, above);
            for (int low = rise + 1, high = houses - 1; low < high; low++, high--) {
                exchange(low, high);
            }
            return true;
        }

        private void exchange(int a, int b) {
            int held = trial[a];
            trial[a] = trial[b];
            trial[b] = held;
        }
    }

    /** Of which kind a house can be, by where it was seen, and when to look next. */
    private static final class Guess {
        final int[][] track = new int[KINDS][LAST_NOTE + 1];
        final Town town = new Town();

        int kindsOf(int house, Story now) {
            follow(house, now.town, now.seen.lastNight());
            return kindsByTracks(house, now.seen);
        }

        int nightToLook(int house, Story now) {
            follow(house, now.town, LAST_NOTE);
            int kinds = kindsByTracks(house, now.seen);
            if (kinds == 0) {
                return NONE;
            }
            int best = NONE;
            int fewest = KINDS + 1;
            for (int night = 1; night <= LAST_NOTE; night++) {
                int left = leftAtWorst(kinds, night);
                if (left < fewest) {
                    fewest = left;
                    best = night;
                }
            }
            return best;
        }

        private void follow(int house, Town now, int nights) {
            int last = Math.min(nights, LAST_NOTE);
            for (int kind = 0; kind < KINDS; kind++) {
                town.copyFrom(now);
                town.kindOf[house] = kind;
                for (int night = 1; night <= last; night++) {
                    town.turn();
                    track[kind][night] = town.plotOf[house];
                }
            }
        }

        private int kindsByTracks(int house, Notes seen) {
            int kinds = 0;
            for (int kind = 0; kind < KINDS; kind++) {
                if (agrees(kind, house, seen)) {
                    kinds |= 1 << kind;
                }
            }
            return kinds;
        }

        private boolean agrees(int kind, int house, Notes seen) {
            for (int i = 0; i < seen.size; i++) {
                if (seen.house[i] == house && track[kind][seen.night[i]] != seen.plot[i]) {
                    return false;
                }
            }
            return true;
        }

        private int leftAtWorst(int kinds, int night) {
            int worst = 0;
            for (int kind = 0; kind < KINDS; kind++) {
                if (has(kinds, kind)) {
                    worst = Math.max(worst, seenAlike(kinds, kind, night));
                }
            }
            return worst;
        }

        private int seenAlike(int kinds, int kind, int night) {
            int alike = 0;
            for (int other = 0; other < KINDS; other++) {
                if (has(kinds, other) && track[other][night] == track[kind][night]) {
                    alike++;
                }
            }
            return alike;
        }

        private static boolean has(int kinds, int kind) {
            return (kinds >> kind & 1) != 0;
        }
    }
}
