/** Edges of promises 13 to 19, and of what is foretold: a test for each sentence that names one. */
public final class EdgeAheadTest {
    private static final int NONE = TurningTown.NONE, UNKNOWN = TurningTown.UNKNOWN, OUTSIDE = TurningTown.OUTSIDE;
    private static final int STATE = TurningTown.STATE;
    private static final int MIN = Integer.MIN_VALUE, MAX = Integer.MAX_VALUE;
    private static final int[] NO_HOUSE = {MIN, -104, -2, -1, 3, 4, 6, MAX};
    private static final int[] NO_PLOT = {MIN, -104, -2, -1, 12, 13, MAX};
    private static final String PLAIN = "012345678905;ha,hb,hc";
    private static final String CHAPEL = "012345678905;ha,cb,hc";

    public static void main(String[] args) {
        Check c = new Check();
        nothingChanges(c);
        whereNow(c);
        whereDown(c);
        whereFar(c);
        whereUnknown(c);
        whereOutside(c);
        whenNow(c);
        whenFar(c);
        whenNone(c);
        whenUnknown(c);
        neighboursNow(c);
        neighboursRound(c);
        neighboursDown(c);
        neighboursFar(c);
        neighboursNone(c);
        neighboursUnknown(c);
        againFew(c);
        againMany(c);
        againNone(c);
        againStand(c);
        againRow(c);
        againFront(c);
        againDown(c);
        againState(c);
        postNow(c);
        postRound(c);
        postStays(c);
        postDown(c);
        postUnknown(c);
        willBounds(c);
        willDown(c);
        willUnknown(c);
        willOutside(c);
        tradeOwn(c);
        tradeShorterWay(c);
        tradeLeast(c);
        tradeOfThoseLeft(c);
        tradeOfThoseThatStand(c);
        ringsOfTwoAndMore(c);
        ringsState(c);
        c.end();
    }

    private static void nothingChanges(Check c) {
        c.sentence("All as it is now; foretold, nothing changes");
        TurningTown x = Check.town("304159265358;td,hk,ea,sg,cb,he");
        Check.nights(x, 2);
        x.see(2, NONE, 1);
        long before = x.digest();
        for (int house = 0; house < 6; house++) {
            x.where(house, 400);
            x.when(house, 3);
            x.neighbours(house, (house + 1) % 6);
            x.post(house, 9);
            x.will(house, 60);
            c.due("digest() behind house " + house, x.digest(), before);
        }
        x.again();
        x.rings();
        c.due("digest()", x.digest(), before);
        c.due("count(5)", x.count(5), 2);
    }

    // ---- promise 13

    private static void whereNow(Check c) {
        c.sentence("13: WHERE behind no NIGHT");
        TurningTown x = Check.town(CHAPEL);
        for (int night = 0; night < 8; night++, x.night()) {
            for (int house = 0; house < 3; house++) {
                c.due("where(" + house + ", 0)", x.where(house, 0), x.house(house, 2));
            }
        }
    }

    private static void whereDown(Check c) {
        c.sentence("13: NONE: it is DOWN");
        TurningTown x = Check.town(CHAPEL);
        long[] due = {1, 1, NONE, NONE, 4, 4, 4, NONE, NONE, 7};
        for (int night = 0; night < due.length; night++) {
            c.due("where(1, " + night + ")", x.where(1, night), due[night]);
        }
        Check.nights(x, 2);
        c.due("where(1, 0) while it is down", x.where(1, 0), NONE);
        c.due("where(1, 1) while it is down", x.where(1, 1), NONE);
        c.due("where(1, 2) while it is down", x.where(1, 2), 4);
    }

    private static void whereFar(Check c) {
        c.sentence("13: WHERE behind 400 NIGHTS");
        TurningTown x = Check.town("012345678905;ha,hb");
        // Behind night n the front is on 1 + n, by twelves; each is moved every other night.
        c.due("where(0, 400)", x.where(0, 400), 4);
        c.due("where(1, 400)", x.where(1, 400), 5);
        c.due("where(0, 399)", x.where(0, 399), 4);
        c.due("where(1, 399)", x.where(1, 399), 3);
        Check.nights(x, 400);
        c.dueAll("plots behind 400 nights", Check.plots(x), 4, 5);
        c.due("where(0, 400) from there", x.where(0, 400), 8);
    }

    private static void whereUnknown(Check c) {
        c.sentence("13: UNKNOWN: house");
        TurningTown x = Check.town(PLAIN);
        for (int house : NO_HOUSE) {
            for (int nights : new int[] {-1, 0, 400, 401}) {
                c.due("where(" + house + ", " + nights + ")", x.where(house, nights), UNKNOWN);
            }
        }
        c.due("where(2, 0)", x.where(2, 0), 2);
        c.due("where(0, 0) without a square", new TurningTown().where(0, 0), UNKNOWN);
        c.due("where(0, 401) without a square", new TurningTown().where(0, 401), UNKNOWN);
    }

    private static void whereOutside(Check c) {
        c.sentence("13: OUTSIDE: nights (0 to 400)");
        TurningTown x = Check.town(PLAIN);
        for (int nights : new int[] {MIN, -104, -1, 401, 402, 999, MAX}) {
            c.due("where(0, " + nights + ")", x.where(0, nights), OUTSIDE);
            c.due("where(2, " + nights + ")", x.where(2, nights), OUTSIDE);
        }
        c.due("where(0, 0)", x.where(0, 0), 0);
        c.due("where(0, 400)", x.where(0, 400), 6);
    }

    // ---- promise 14

    private static void whenNow(Check c) {
        c.sentence("14: WHEN: behind how few NIGHTS (0: it is there)");
        TurningTown x = Check.town(PLAIN);
        for (int house = 0; house < 3; house++) {
            c.due("when(" + house + ", " + house + ")", x.when(house, house), 0);
        }
        c.due("when(0, 3)", x.when(0, 3), 1);
        // It is on 3 behind nights 1 to 3; the first of these is told.
        c.due("where(0, 3)", x.where(0, 3), 3);
        x.night();
        c.due("when(0, 3) behind a night", x.when(0, 3), 0);
        c.due("when(0, 0) behind 9 nights more", x.when(0, 0), 9);
    }

    private static void whenFar(Check c) {
        c.sentence("14: WHEN: (to 200)");
        TurningTown x = Check.town("012345678905;ca,ca,ca,ca,ca,sa");
        x.swap(0, 5);
        c.due("where(2, 201)", x.where(2, 201), 9);
        c.due("when(2, 9) behind 201 nights", x.when(2, 9), NONE);
        x.night();
        c.due("when(2, 9) behind 200 nights", x.when(2, 9), 200);
        x.night();
        c.due("when(2, 9) behind 199 nights", x.when(2, 9), 199);
    }

    private static void whenNone(Check c) {
        c.sentence("14: NONE");
        TurningTown x = Check.town("012345678905;ta,hb");
        // Both go on by two each night, so that the twin is never on an odd plot.
        for (int plot = 0; plot < 12; plot++) {
            c.due("when(0, " + plot + ")", x.when(0, plot), plot % 2 == 0 ? plot / 2 : NONE);
            c.due("when(1, " + plot + ")", x.when(1, plot), plot % 2 == 1 ? plot / 2 : NONE);
        }
    }

    private static void whenUnknown(Check c) {
        c.sentence("14: UNKNOWN: house, plot");
        TurningTown x = Check.town(CHAPEL);
        Check.nights(x, 2);
        for (int house : NO_HOUSE) {
            c.due("when(" + house + ", 0)", x.when(house, 0), UNKNOWN);
            c.due("when(" + house + ", 12)", x.when(house, 12), UNKNOWN);
        }
        for (int plot : NO_PLOT) {
            c.due("when(0, " + plot + ")", x.when(0, plot), UNKNOWN);
            c.due("when(1, " + plot + ") while it is down", x.when(1, plot), UNKNOWN);
        }
        c.due("when(0, 0) without a square", new TurningTown().when(0, 0), UNKNOWN);
    }

    // ---- promise 15

    private static void neighboursNow(Check c) {
        c.sentence("15: NEIGHBOURS: behind how few NIGHTS (0: they are)");
        TurningTown x = Check.town(PLAIN);
        c.due("neighbours(0, 1)", x.neighbours(0, 1), 0);
        c.due("neighbours(1, 0)", x.neighbours(1, 0), 0);
        c.due("neighbours(2, 1)", x.neighbours(2, 1), 0);
        c.due("neighbours(0, 2)", x.neighbours(0, 2), 1);
        c.due("neighbours(2, 0)", x.neighbours(2, 0), 1);
    }

    private static void neighboursRound(Check c) {
        c.sentence("15: NEIGHBOURS on PLOTS 11 and 0");
        TurningTown x = Check.town("012345678905;ha,hb");
        Check.nights(x, 11);
        c.dueAll("plots", Check.plots(x), 0, 11);
        c.due("neighbours(0, 1)", x.neighbours(0, 1), 0);
        c.due("neighbours(1, 0)", x.neighbours(1, 0), 0);
        // On 0 and 10 they are not.
        x = Check.town(PLAIN);
        Check.nights(x, 10);
        c.dueAll("plots", Check.plots(x), 0, 10, 11);
        c.due("neighbours(0, 1)", x.neighbours(0, 1), 1);
        c.due("neighbours(0, 2)", x.neighbours(0, 2), 0);
    }

    private static void neighboursDown(Check c) {
        c.sentence("15: NEIGHBOURS (one that is DOWN is on no PLOT)");
        TurningTown x = Check.town("012345678905;ca,hb");
        x.swap(0, 1);
        x.night();
        c.dueAll("plots", Check.plots(x), NONE, 0);
        c.due("neighbours(0, 1)", x.neighbours(0, 1), 3);
        c.due("neighbours(1, 0)", x.neighbours(1, 0), 3);
    }

    private static void neighboursFar(Check c) {
        c.sentence("15: NEIGHBOURS: (to 200)");
        TurningTown x = Check.town("012345678905;sa,sa,sa,ca,sa,sa");
        x.swap(5, 4);
        // None of all towns that were tried has them later than some dozens of nights from now.
        c.due("neighbours(0, 2)", x.neighbours(0, 2), 25);
        for (int night = 0; night <= 25; night++) {
            int apart = Math.floorMod(x.where(0, night) - x.where(2, night), 12);
            c.due("beside each other behind " + night, apart == 1 || apart == 11 ? 1 : 0, night == 25 ? 1 : 0);
        }
    }

    private static void neighboursNone(Check c) {
        c.sentence("15: NONE");
        TurningTown x = Check.town("012345678905;ta,sb");
        c.due("neighbours(0, 1)", x.neighbours(0, 1), 0);
        x.night();
        // Both are moved each night, and the shop keeps one plot free behind the twin.
        c.due("neighbours(0, 1) behind a night", x.neighbours(0, 1), NONE);
        c.due("neighbours(1, 0) behind a night", x.neighbours(1, 0), NONE);
        for (int night = 0; night <= 60; night++) {
            c.due("apart behind " + night, Math.floorMod(x.where(1, night) - x.where(0, night), 12), 2);
        }
    }

    private static void neighboursUnknown(Check c) {
        c.sentence("15: UNKNOWN: a, b, or they are the same");
        TurningTown x = Check.town(CHAPEL);
        for (int house : NO_HOUSE) {
            c.due("neighbours(" + house + ", 0)", x.neighbours(house, 0), UNKNOWN);
            c.due("neighbours(0, " + house + ")", x.neighbours(0, house), UNKNOWN);
            c.due("neighbours(" + house + ", " + house + ")", x.neighbours(house, house), UNKNOWN);
        }
        for (int house = 0; house < 3; house++) {
            c.due("neighbours(" + house + ", " + house + ")", x.neighbours(house, house), UNKNOWN);
        }
        c.due("neighbours(0, 1) without a square", new TurningTown().neighbours(0, 1), UNKNOWN);
    }

    // ---- promise 16

    private static void againFew(Check c) {
        c.sentence("16: AGAIN: behind how few NIGHTS (1 at least)");
        // That nothing has changed behind no night is not told.
        c.due("again() of a twin with another", Check.town("012345678905;ta,hb").again(), 6);
        c.due("again() of two", Check.town("012345678905;ha,hb").again(), 12);
        c.due("again() of three", Check.town(PLAIN).again(), 12);
        c.due("again() of five", Check.town("012345678905;ha,hb,hc,hd,he").again(), 60);
        TurningTown x = Check.town(PLAIN);
        Check.nights(x, 12);
        c.dueAll("plots behind 12 nights", Check.plots(x), 0, 1, 2);
        c.due("again() behind 12 nights", x.again(), 12);
    }

    private static void againMany(Check c) {
        c.sentence("16: AGAIN: (to 400)");
        TurningTown x = Check.town("012345678905;ca,sa,ca,ca,ca,ca");
        x.swap(2, 5);
        x.swap(3, 5);
        Check.nights(x, 25);
        // None of all towns that were tried takes longer.
        c.due("again()", x.again(), 192);
        for (int house = 0; house < 6; house++) {
            c.due("where(" + house + ", 192)", x.where(house, 192), x.where(house, 0));
            c.due("where(" + house + ", 384)", x.where(house, 384), x.where(house, 0));
        }
    }

    private static void againNone(Check c) {
        c.sentence("16: NONE");
        TurningTown x = Check.town(PLAIN);
        x.swap(0, 2);
        // Once the three have been moved they stand in the row's order, and never so again.
        c.due("again() behind a swap", x.again(), NONE);
        Check.nights(x, 3);
        c.due("again() 3 nights later", x.again(), 12);
    }

    private static void againStand(Check c) {
        c.sentence("16: AGAIN: all stand as now");
        TurningTown x = Check.town("012345678905;ha,sb");
        // Behind 8 nights the front and the row are as now, but house 0 is on 11.
        c.due("where(0, 8)", x.where(0, 8), 11);
        c.due("where(1, 8)", x.where(1, 8), 1);
        c.due("again()", x.again(), NONE);
    }

    private static void againRow(Check c) {
        c.sentence("16: AGAIN: THE ROW likewise");
        TurningTown x = Check.town("012345678905;ea,eb,sc,hd");
        x.swap(2, 0);
        x.swap(1, 3);
        // Behind 16 nights all stand as now, and the front is as now.
        long[] now = Check.plots(x);
        for (int house = 0; house < 4; house++) {
            c.due("where(" + house + ", 16)", x.where(house, 16), now[house]);
        }
        c.due("again()", x.again(), NONE);
    }

    private static void againFront(Check c) {
        c.sentence("16: AGAIN: the FRONT likewise");
        TurningTown x = Check.town("012345678905;ca,cb");
        x.swap(1, 0);
        Check.nights(x, 3);
        x.swap(0, 1);
        Check.nights(x, 2);
        // Behind 30 nights all stand as now, in the same row, and the chapel stays down as long.
        long[] now = Check.plots(x);
        c.due("where(0, 30)", x.where(0, 30), now[0]);
        c.due("where(1, 30)", x.where(1, 30), now[1]);
        c.due("again()", x.again(), NONE);
    }

    private static void againDown(Check c) {
        c.sentence("16: AGAIN: how long one stays DOWN likewise");
        TurningTown x = Check.town(CHAPEL);
        Check.nights(x, 2);
        c.due("stays down for", x.count(4), 2);
        // Behind one night more all else is as now.
        c.due("again()", x.again(), 20);
        x.night();
        c.due("stays down for", x.count(4), 1);
        c.due("again() a night later", x.again(), 20);
    }

    private static void againState(Check c) {
        c.sentence("16: STATE: no SQUARE");
        TurningTown x = new TurningTown();
        c.due("again()", x.again(), STATE);
        Check.write(x, PLAIN);
        c.due("again() with a page alone", x.again(), STATE);
        x.square();
        c.due("again() with a square", x.again(), 12);
    }

    // ---- promise 17

    private static void postNow(Check c) {
        c.sentence("17: LETTER: behind how few NIGHTS (0: he is there)");
        TurningTown x = Check.town(PLAIN);
        for (int house = 0; house < 3; house++) {
            c.due("post(" + house + ", " + house + ")", x.post(house, house), 0);
        }
        c.due("post(1, 0)", x.post(1, 0), 1);
        c.due("post(1, 2)", x.post(1, 2), 1);
    }

    private static void postRound(Check c) {
        c.sentence("17: LETTER: goes to a next one (round behind 11 and 0, too)");
        TurningTown x = Check.town("012345678905;ha,hb");
        Check.nights(x, 10);
        c.dueAll("plots", Check.plots(x), 10, 11);
        // House 1 stays on 11 behind the next night, house 0 comes to 0.
        c.due("post(1, 0)", x.post(1, 0), 1);
        c.due("post(0, 1)", x.post(0, 1), 1);
        x.night();
        c.dueAll("plots", Check.plots(x), 0, 11);
        c.due("post(0, 11)", x.post(0, 11), 1);
        // House 0 goes on by two every other night: from 10 it is reached on 6 only.
        c.due("post(0, 10)", x.post(0, 10), 6);
    }

    private static void postStays(Check c) {
        c.sentence("17: LETTER: or stays");
        TurningTown x = Check.town(CHAPEL);
        // House 1 comes to plot 4 behind night 4.
        c.due("post(1, 4)", x.post(1, 4), 4);
        c.due("post(0, 3)", x.post(0, 3), 1);
    }

    private static void postDown(Check c) {
        c.sentence("17: LETTER: on the PLOT of a house (it is DOWN; the latest night found)");
        TurningTown x = Check.town("012345678905;ha,cb");
        x.swap(0, 1);
        // The chapel is on 0 behind nights 0 and 1, on 3 behind 4 and 5, on 5 behind 8: from 9 it is too far but then.
        c.dueAll("where(1, ..)", Check.track(x, 1, 8), 0, 0, NONE, NONE, 3, 3, NONE, NONE, 5);
        c.due("post(1, 9)", x.post(1, 9), 8);
        c.due("post(1, 8)", x.post(1, 8), 5);
        c.due("post(1, 11)", x.post(1, 11), 1);
        c.due("post(1, 10)", x.post(1, 10), 5);
        Check.nights(x, 2);
        c.due("post(1, 0) while it is down", x.post(1, 0), 3);
        c.due("post(1, 3) while it is down", x.post(1, 3), 2);
    }

    private static void postUnknown(Check c) {
        c.sentence("17: UNKNOWN: house, plot (from where)");
        TurningTown x = Check.town(CHAPEL);
        Check.nights(x, 2);
        for (int house : NO_HOUSE) {
            c.due("post(" + house + ", 0)", x.post(house, 0), UNKNOWN);
            c.due("post(" + house + ", 12)", x.post(house, 12), UNKNOWN);
        }
        for (int plot : NO_PLOT) {
            c.due("post(0, " + plot + ")", x.post(0, plot), UNKNOWN);
            c.due("post(1, " + plot + ") while it is down", x.post(1, plot), UNKNOWN);
        }
        c.due("post(0, 0) without a square", new TurningTown().post(0, 0), UNKNOWN);
    }

    // ---- promise 18

    private static void willBounds(Check c) {
        c.sentence("18: WILL for so many NIGHTS (1 to 60)");
        TurningTown x = Check.town("304159265358;td,hk,ea,sg,cb,he");
        long[] one = new long[6];
        long[] sixty = new long[6];
        for (int house = 0; house < 6; house++) {
            one[house] = x.will(house, 1);
            sixty[house] = x.will(house, 60);
        }
        x.night();
        c.dueAll("had behind one night", Check.had(x), one);
        Check.nights(x, 59);
        c.dueAll("had behind 60 nights", Check.had(x), sixty);
        // Neither what it has had counts, nor where it is now.
        c.due("will(0, 1) from 0 to 2", Check.town("110000000000;ha,hb").will(0, 1), 0);
    }

    private static void willDown(Check c) {
        c.sentence("18: WILL (DOWN: 0)");
        TurningTown x = Check.town("999999999999;ca,hb");
        c.due("will(0, 1)", x.will(0, 1), 0);
        c.due("will(0, 2)", x.will(0, 2), 0);
        c.due("will(0, 3)", x.will(0, 3), 9);
        c.due("will(0, 4)", x.will(0, 4), 18);
        c.due("will(0, 6)", x.will(0, 6), 18);
        c.due("will(1, 60)", x.will(1, 60), 540);
        c.due("will(0, 60)", x.will(0, 60), 270);
    }

    private static void willUnknown(Check c) {
        c.sentence("18: UNKNOWN: house");
        TurningTown x = Check.town(PLAIN);
        for (int house : NO_HOUSE) {
            for (int nights : new int[] {0, 1, 60, 61}) {
                c.due("will(" + house + ", " + nights + ")", x.will(house, nights), UNKNOWN);
            }
        }
        c.due("will(2, 1)", x.will(2, 1), 2);
        c.due("will(0, 1) without a square", new TurningTown().will(0, 1), UNKNOWN);
        c.due("will(0, 0) without a square", new TurningTown().will(0, 0), UNKNOWN);
    }

    private static void willOutside(Check c) {
        c.sentence("18: OUTSIDE: nights (1 to 60)");
        TurningTown x = Check.town(PLAIN);
        for (int nights : new int[] {MIN, -104, -1, 0, 61, 62, 400, MAX}) {
            c.due("will(0, " + nights + ")", x.will(0, nights), OUTSIDE);
            c.due("will(2, " + nights + ")", x.will(2, nights), OUTSIDE);
        }
    }

    // ---- promise 19, and what house() tells for 7

    private static void trade(Check c, String text, int rings, long... plots) {
        trade(c, Check.town(text), rings, plots);
    }

    private static void trade(Check c, TurningTown x, int rings, long... plots) {
        long[] gets = new long[x.count(0)];
        for (int house = 0; house < gets.length; house++) {
            gets[house] = x.house(house, 7);
        }
        c.dueAll("trade", gets, plots);
        c.due("rings()", x.rings(), rings);
    }

    private static void tradeOwn(Check c) {
        c.sentence("19: TRADE: each goes to the PLOT of one that stands (or its own)");
        trade(c, "012345678905;ha,hb", 0, 0, 1);
        trade(c, "012345678905;ha,hb,hc,hd,he,hf", 0, 0, 1, 2, 3, 4, 5);
        // Nobody goes to a plot where none stands, however much it is liked.
        trade(c, "012345678905;hg,hg", 0, 0, 1);
        trade(c, "012345678905;hf,hj,hk", 1, 2, 1, 0);
    }

    private static void tradeShorterWay(Check c) {
        c.sentence("19: TRADE: nearest by the shorter way round");
        // From 11 to 0 is one step, to 1 two; from 10 to 0 two, to 1 three.
        trade(c, "012345678905;hb,hl", 1, 1, 0);
        trade(c, "012345678905;hb,hk", 1, 1, 0);
        trade(c, "012345678905;hl,hb", 0, 0, 1);
        TurningTown x = Check.town("012345678905;ha,hl");
        Check.nights(x, 11);
        c.dueAll("plots", Check.plots(x), 0, 11);
        trade(c, x, 0, 0, 11);
        x = Check.town("012345678905;hl,ha");
        Check.nights(x, 11);
        trade(c, x, 1, 11, 0);
    }

    private static void tradeLeast(Check c) {
        c.sentence("19: TRADE: of like ones the least");
        // Plot 7 is as far from 0 as from 2.
        trade(c, "012345678905;hh,hb,ha", 0, 0, 1, 2);
        trade(c, "012345678905;hc,hb,hh", 1, 2, 1, 0);
        // Once 1 is out, 0 and 2 are as near to it.
        trade(c, "012345678905;hc,hb,hb", 1, 2, 1, 0);
        trade(c, "012345678905;hb,hb,ha", 0, 0, 1, 2);
    }

    private static void tradeOfThoseLeft(Check c) {
        c.sentence("19: TRADE: who come to themselves so by a ring are out, with their PLOTS, and so on");
        // 3 is out first, then 0 and 2 are a ring, then 1 is alone.
        trade(c, "012345678905;hd,hd,ha,hd", 1, 2, 1, 0, 3);
        // All like 5: they are out one behind the other, each with its own.
        trade(c, "012345678905;hf,hf,hf,hf,hf,hf", 0, 0, 1, 2, 3, 4, 5);
        // A ring that is pointed to by others takes none of them in.
        trade(c, "012345678905;hb,hc,hb,ha", 1, 0, 2, 1, 3);
    }

    private static void tradeOfThoseThatStand(Check c) {
        c.sentence("19: TRADE: of houses that stand");
        TurningTown x = Check.town("012345678905;eb,ha,hb");
        trade(c, x, 1, 1, 0, 2);
        x.night();
        // The plot of one that is down is nobody's.
        trade(c, x, 0, NONE, 1, 2);
        // Of two one alone is left.
        x = Check.town("012345678905;eb,ha");
        trade(c, x, 1, 1, 0);
        x.night();
        trade(c, x, 0, NONE, 1);
    }

    private static void ringsOfTwoAndMore(Check c) {
        c.sentence("19: rings of two and more");
        trade(c, "012345678905;ha,hc,hb", 1, 0, 2, 1);
        trade(c, "012345678905;hb,ha,hd,hc,hf,he", 3, 1, 0, 3, 2, 5, 4);
        trade(c, "012345678905;hb,hc,ha,he,hf,hd", 2, 1, 2, 0, 4, 5, 3);
        trade(c, "012345678905;hb,hc,hd,he,hf,ha", 1, 1, 2, 3, 4, 5, 0);
        trade(c, "012345678905;hf,ha,hb,hc,hd,he", 1, 5, 0, 1, 2, 3, 4);
    }

    private static void ringsState(Check c) {
        c.sentence("19: STATE: no SQUARE");
        TurningTown x = new TurningTown();
        c.due("rings()", x.rings(), STATE);
        Check.write(x, "012345678905;hb,ha");
        c.due("rings() with a page alone", x.rings(), STATE);
        x.square();
        c.due("rings() with a square", x.rings(), 1);
    }
}
