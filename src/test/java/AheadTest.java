/** Promises 13 to 19: what will be, and trades. */
public final class AheadTest {
    private static final int NONE = TurningTown.NONE, UNKNOWN = TurningTown.UNKNOWN, OUTSIDE = TurningTown.OUTSIDE;
    private static final int[] NO_HOUSE = {Integer.MIN_VALUE, -1, 3, 6, Integer.MAX_VALUE};
    private static final int[] NO_PLOT = {Integer.MIN_VALUE, -2, -1, 12, Integer.MAX_VALUE};
    private static final String PLAIN = "012345678905;ha,ha,ha";
    private static final String CHAPEL = "012345678905;ha,ca,ha";

    public static void main(String[] args) {
        Check c = new Check();
        where(c);
        when(c);
        neighbours(c);
        again(c);
        post(c);
        will(c);
        trades(c);
        tradesOfSome(c);
        nothingChanges(c);
        c.end();
    }

    private static void where(Check c) {
        TurningTown x = Check.town(CHAPEL);
        c.dueAll("where(0, ..)", Check.track(x, 0, 7), 0, 3, 3, 3, 3, 3, 6, 6);
        c.dueAll("where(1, ..)", Check.track(x, 1, 9), 1, 1, NONE, NONE, 4, 4, 4, NONE, NONE, 7);
        c.dueAll("where(2, ..)", Check.track(x, 2, 7), 2, 2, 2, 2, 2, 5, 5, 5);
        // All is as it was behind 20 nights.
        c.due("where(1, 400)", x.where(1, 400), 1);
        c.due("where(1, 399)", x.where(1, 399), 1);
        c.due("where(2, 399)", x.where(2, 399), 11);
        c.due("where(1, 401)", x.where(1, 401), OUTSIDE);
        c.due("where(1, -1)", x.where(1, -1), OUTSIDE);
        Check.nights(x, 2);
        c.dueAll("where(1, ..) while it is down", Check.track(x, 1, 3), NONE, NONE, 4, 4);
        for (int house : NO_HOUSE) {
            c.due("where(" + house + ", 0)", x.where(house, 0), UNKNOWN);
            c.due("where(" + house + ", 401)", x.where(house, 401), UNKNOWN);
        }
    }

    private static void when(Check c) {
        TurningTown x = Check.town(CHAPEL);
        c.due("when(0, 0)", x.when(0, 0), 0);
        c.due("when(0, 3)", x.when(0, 3), 1);
        c.due("when(1, 4)", x.when(1, 4), 4);
        c.due("when(2, 11)", x.when(2, 11), 15);
        c.due("when(1, 2)", x.when(1, 2), NONE);
        for (int house : NO_HOUSE) {
            c.due("when(" + house + ", 0)", x.when(house, 0), UNKNOWN);
        }
        for (int plot : NO_PLOT) {
            c.due("when(0, " + plot + ")", x.when(0, plot), UNKNOWN);
        }
        Check.nights(x, 2);
        c.due("when(1, -1) while it is down", x.when(1, -1), UNKNOWN);
        c.due("when(1, 4) while it is down", x.when(1, 4), 2);

        x = Check.town("012345678905;ca,ca,ca,ca,ca,sa");
        x.swap(0, 5);
        c.due("where(2, 201)", x.where(2, 201), 9);
        c.due("when(2, 9) behind 201 nights", x.when(2, 9), NONE);
        x.night();
        c.due("when(2, 9) behind 200 nights", x.when(2, 9), 200);
    }

    private static void neighbours(Check c) {
        TurningTown x = Check.town(PLAIN);
        c.due("neighbours(0, 1)", x.neighbours(0, 1), 0);
        c.due("neighbours(0, 2)", x.neighbours(0, 2), 1);
        c.due("neighbours(2, 0)", x.neighbours(2, 0), 1);
        Check.nights(x, 10);
        c.dueAll("behind 10 nights", Check.plots(x), 0, 10, 11);
        c.due("neighbours(0, 2) by 11 and 0", x.neighbours(0, 2), 0);
        c.due("neighbours(1, 1)", x.neighbours(1, 1), UNKNOWN);
        for (int house : NO_HOUSE) {
            c.due("neighbours(" + house + ", 0)", x.neighbours(house, 0), UNKNOWN);
            c.due("neighbours(0, " + house + ")", x.neighbours(0, house), UNKNOWN);
        }
        x = Check.town("012345678905;ta,sb");
        x.night();
        c.due("neighbours(0, 1) of twin and shop", x.neighbours(0, 1), NONE);

        // One that is down is on no plot, so it isn't beside plot 0 either.
        x = Check.town("012345678905;ca,hb");
        x.swap(0, 1);
        x.night();
        c.dueAll("a chapel is down", Check.plots(x), NONE, 0);
        c.due("neighbours(0, 1) while one is down", x.neighbours(0, 1), 3);
    }

    private static void again(Check c) {
        c.due("again() of plain houses", Check.town(PLAIN).again(), 12);
        TurningTown x = Check.town(CHAPEL);
        c.due("again() with a chapel", x.again(), 20);
        Check.nights(x, 2);
        // Behind the next night only for how long the chapel stays down is otherwise.
        c.due("again() while one is down", x.again(), 20);
        x.night();
        c.due("again() a night later", x.again(), 20);
        x = Check.town(PLAIN);
        x.swap(0, 2);
        c.due("again() behind a swap", x.again(), NONE);
        x = Check.town("012345678905;ha,hb,hc,hd,he");
        c.due("again() of five", x.again(), 60);
        // Behind 8 nights only house 0 stands otherwise, on plot 11.
        x = Check.town("012345678905;ha,sb");
        c.due("where(0, 8)", x.where(0, 8), 11);
        c.due("where(1, 8)", x.where(1, 8), 1);
        c.due("again() of a house and a shop", x.again(), NONE);
        x.night();
        x.night();
        c.due("again() two nights later", x.again(), 8);
    }

    private static void post(Check c) {
        TurningTown x = Check.town(CHAPEL);
        c.due("post(0, 0)", x.post(0, 0), 0);
        c.due("post(0, 6)", x.post(0, 6), 3);
        c.due("post(1, 0)", x.post(1, 0), 1);
        c.due("post(2, 11)", x.post(2, 11), 3);
        c.due("post(1, 11)", x.post(1, 11), 5);
        c.due("post(1, 4)", x.post(1, 4), 4);
        Check.nights(x, 2);
        c.due("post(1, 0) while it is down", x.post(1, 0), 4);
        c.due("post(1, 4) while it is down", x.post(1, 4), 2);
        for (int house : NO_HOUSE) {
            c.due("post(" + house + ", 0)", x.post(house, 0), UNKNOWN);
        }
        for (int plot : NO_PLOT) {
            c.due("post(0, " + plot + ")", x.post(0, plot), UNKNOWN);
        }
    }

    private static void will(Check c) {
        TurningTown x = Check.town(CHAPEL);
        c.due("will(0, 1)", x.will(0, 1), 3);
        c.due("will(1, 1)", x.will(1, 1), 1);
        c.due("will(1, 3)", x.will(1, 3), 1);
        c.due("will(1, 5)", x.will(1, 5), 9);
        // 36 for every 20 nights.
        c.due("will(1, 60)", x.will(1, 60), 108);
        c.due("will(1, 0)", x.will(1, 0), OUTSIDE);
        c.due("will(1, 61)", x.will(1, 61), OUTSIDE);
        c.due("will(1, -1)", x.will(1, -1), OUTSIDE);
        for (int house : NO_HOUSE) {
            c.due("will(" + house + ", 1)", x.will(house, 1), UNKNOWN);
            c.due("will(" + house + ", 0)", x.will(house, 0), UNKNOWN);
        }
        Check.nights(x, 5);
        c.due("will(1, 5) is what it has had from the beginning", x.house(1, 4), 9);
    }

    private static void trade(Check c, TurningTown x, int rings, long... plots) {
        long[] gets = new long[x.count(0)];
        for (int house = 0; house < gets.length; house++) {
            gets[house] = x.house(house, 7);
        }
        c.dueAll("trade", gets, plots);
        c.due("rings()", x.rings(), rings);
    }

    private static void trades(Check c) {
        c.due("rings() of a new town", Check.town("012345678905;hb,ha,hd,hc").rings(), 2);
        trade(c, Check.town("012345678905;ha,hb"), 0, 0, 1);
        trade(c, Check.town("012345678905;hb,ha"), 1, 1, 0);
        trade(c, Check.town("012345678905;hb,hc,ha"), 1, 1, 2, 0);
        trade(c, Check.town("012345678905;hb,ha,hd,hc"), 2, 1, 0, 3, 2);
        trade(c, Check.town("012345678905;hb,ha,hd,hc,hf,he"), 3, 1, 0, 3, 2, 5, 4);
        trade(c, Check.town("012345678905;hb,hc,hd,he,hf,ha"), 1, 1, 2, 3, 4, 5, 0);
        // All like plot 1: who stands there stays; of 0 and 2, as near, the others point to 0.
        trade(c, Check.town("012345678905;hb,hb,hb"), 0, 0, 1, 2);
        // Plot 11 is nearest to 0 by the shorter way round.
        trade(c, Check.town("012345678905;hb,hl,hc"), 1, 1, 0, 2);
        // Once plot 3 is out, plot 2 is the nearest to it for house 0; house 1 has to stay.
        trade(c, Check.town("012345678905;hd,hd,ha,hd"), 1, 2, 1, 0, 3);
        // Once house 1 is out, house 2 points to 0, which is as near to plot 1 as its own.
        trade(c, Check.town("012345678905;hc,hb,hb"), 1, 2, 1, 0);
        // Plot 7 is as far from 2 as from 0: house 0 points to the least one, its own.
        trade(c, Check.town("012345678905;hh,hb,ha"), 0, 0, 1, 2);
    }

    private static void tradesOfSome(Check c) {
        TurningTown x = Check.town("012345678905;cb,ha,hb");
        trade(c, x, 1, 1, 0, 2);
        x.night();
        // With house 0 down its plot is none that one could have.
        trade(c, x, 0, NONE, 1, 2);
        x = Check.town("012345678905;cb,hc,hb");
        trade(c, x, 1, 0, 2, 1);
        x.night();
        trade(c, x, 1, NONE, 2, 1);
        x = Check.town("012345678905;cb,ha,hc");
        x.night();
        trade(c, x, 0, NONE, 1, 2);
        // Liked plots where none stands are pointed to by what is nearest to them.
        x = Check.town("012345678905;hg,hk");
        trade(c, x, 1, 1, 0);
    }

    private static void nothingChanges(Check c) {
        TurningTown x = Check.town("304159265358;td,hk,ea,sg,cb,he");
        Check.nights(x, 2);
        x.see(0, 1, 1);
        long before = x.digest();
        x.where(0, 400);
        x.when(2, 3);
        x.neighbours(0, 5);
        x.again();
        x.post(4, 4);
        x.will(3, 60);
        x.rings();
        x.house(0, 5);
        x.house(0, 6);
        x.house(0, 7);
        x.years(60, 9, 1);
        x.fault();
        x.as(0, 4);
        c.due("foretelling changes nothing", x.digest(), before);
    }
}
