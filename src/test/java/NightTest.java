/** Promises 9 to 12: nights, snow, building and swapping. */
public final class NightTest {
    private static final int NONE = TurningTown.NONE, UNKNOWN = TurningTown.UNKNOWN, OUTSIDE = TurningTown.OUTSIDE;
    private static final int STATE = TurningTown.STATE, FULL = TurningTown.FULL;
    private static final String SIX_SHOPS = "012345678901;sa,sa,sa,sa,sa,sa";

    public static void main(String[] args) {
        Check c = new Check();
        plainHouses(c);
        heavyAndChapel(c);
        twins(c);
        shops(c);
        oldPlotOfOneThatIsDown(c);
        snow(c);
        full(c);
        build(c);
        swap(c);
        c.end();
    }

    /** A night, with how many were moved, and what is so behind it. */
    private static void night(Check c, TurningTown x, int moved, int front, int downFor, long... plots) {
        String call = "night " + (x.count(5) + 1);
        c.due(call, x.night(), moved);
        c.dueAll(call + ": plots", Check.plots(x), plots);
        c.due(call + ": front", x.count(2), front);
        c.due(call + ": stays down for", x.count(4), downFor);
    }

    private static void plainHouses(Check c) {
        TurningTown x = Check.town("012345678905;ha,ha,ha");
        night(c, x, 1, 3, 0, 3, 1, 2);
        c.dueAll("row", Check.row(x), 1, 2, 0);
        c.due("first", x.count(3), 1);
        night(c, x, 1, 4, 0, 3, 4, 2);
        night(c, x, 1, 5, 0, 3, 4, 5);
        c.dueAll("had", Check.had(x), 9, 1 + 4 + 4, 2 + 2 + 5);
        Check.nights(x, 6);
        c.dueAll("behind 9 nights", Check.plots(x), 9, 10, 11);
        night(c, x, 1, 0, 0, 0, 10, 11);
        night(c, x, 1, 1, 0, 0, 1, 11);
        c.due("nights", x.count(5), 11);
    }

    private static void heavyAndChapel(Check c) {
        TurningTown x = Check.town("012345678905;ea,ca,ha");
        night(c, x, 1, 2, 1, NONE, 1, 2);
        c.dueAll("row while the first is down", Check.row(x), 0, 1, 2);
        c.due("that stand", x.count(1), 2);
        night(c, x, 1, 3, 0, 3, 1, 2);
        c.dueAll("row behind that", Check.row(x), 1, 2, 0);
        night(c, x, 1, 3, 2, 3, NONE, 2);
        night(c, x, 0, 3, 1, 3, NONE, 2);
        night(c, x, 1, 4, 0, 3, 4, 2);
        night(c, x, 1, 5, 0, 3, 4, 5);
        c.dueAll("had", Check.had(x), 0 + 3 + 3 + 3 + 3 + 3, 1 + 1 + 0 + 0 + 4 + 4, 2 + 2 + 2 + 2 + 2 + 5);
    }

    private static void twins(Check c) {
        TurningTown x = Check.town("012345678905;ta,ta,ha");
        // No third one comes along with the second twin.
        night(c, x, 2, 4, 0, 3, 4, 2);
        c.dueAll("twins: row", Check.row(x), 2, 0, 1);
        night(c, x, 1, 5, 0, 3, 4, 5);

        x = Check.town("012345678905;ta,ca,ha");
        // A chapel that is moved with a twin is put up at once.
        night(c, x, 2, 4, 0, 3, 4, 2);
        night(c, x, 1, 5, 0, 3, 4, 5);
        night(c, x, 2, 7, 0, 6, 7, 5);

        x = Check.town("012345678905;ta,sa,ha");
        night(c, x, 2, 5, 0, 3, 5, 2);

        x = Check.town("012345678905;ha,ta,ea");
        night(c, x, 1, 3, 0, 3, 1, 2);
        night(c, x, 2, 5, 0, 3, 4, 5);
        night(c, x, 1, 6, 0, 6, 4, 5);

        x = Check.town("012345678905;ha,ta");
        // The twin is last; the next one of the row is then the first again.
        night(c, x, 1, 2, 0, 2, 1);
        night(c, x, 2, 4, 0, 4, 3);
        c.dueAll("two: row", Check.row(x), 1, 0);
    }

    private static void shops(Check c) {
        TurningTown x = Check.town(SIX_SHOPS);
        night(c, x, 1, 7, 0, 7, 1, 2, 3, 4, 5);
        night(c, x, 1, 9, 0, 7, 9, 2, 3, 4, 5);
        night(c, x, 1, 11, 0, 7, 9, 11, 3, 4, 5);
        night(c, x, 1, 1, 0, 7, 9, 11, 1, 4, 5);
        night(c, x, 1, 3, 0, 7, 9, 11, 1, 3, 5);
        // Plot 4 is free, 5 is its own, which is none such: the second free one is 6.
        night(c, x, 1, 6, 0, 7, 9, 11, 1, 3, 6);
        // 7 is its own, 8 is the first free one, 9 is taken, 10 is the second.
        night(c, x, 1, 10, 0, 10, 9, 11, 1, 3, 6);
    }

    private static void oldPlotOfOneThatIsDown(Check c) {
        TurningTown x = Check.town(SIX_SHOPS);
        Check.nights(x, 6);
        x.build(0, 1);
        night(c, x, 1, 6, 1, NONE, 9, 11, 1, 3, 6);
        // While it is down it stands nowhere, so plot 7 is free for it too.
        night(c, x, 1, 7, 0, 7, 9, 11, 1, 3, 6);

        x = Check.town(SIX_SHOPS);
        Check.nights(x, 6);
        x.build(0, 0);
        // A plain house stands on plot 7 while it is moved.
        night(c, x, 1, 8, 0, 8, 9, 11, 1, 3, 6);
    }

    private static void snow(Check c) {
        TurningTown x = Check.town("012345678905;ha,ca,ha");
        c.due("snow()", x.snow(), 1);
        c.dueAll("snow: plots", Check.plots(x), 0, 1, 2);
        c.dueAll("snow: had", Check.had(x), 0, 1, 2);
        c.dueAll("snow: row", Check.row(x), 0, 1, 2);
        Check.nights(x, 2);
        c.due("down for", x.count(4), 2);
        c.due("snow() while one is down", x.snow(), 4);
        c.due("down for as long", x.count(4), 2);
        c.dueAll("snow while one is down: had", Check.had(x), 9, 1 + 1, 8);
        night(c, x, 0, 3, 1, 3, NONE, 2);
        c.due("snow() ahead of the last night", x.snow(), 6);
        night(c, x, 1, 4, 0, 3, 4, 2);
    }

    /** No 512 calls come so far; but what is told of 999 nights is held to all the same. */
    private static void full(Check c) {
        TurningTown x = Check.town("012345678905;ha,ca,ha");
        for (int i = 0; i < 998; i++) {
            x.snow();
        }
        c.due("night() as number 999", x.night(), 1);
        c.due("night() as number 1000", x.night(), FULL);
        c.due("snow() as number 1000", x.snow(), FULL);
        c.due("nights", x.count(5), 999);
        c.due("had behind that", x.house(1, 4), 999);
        c.due("where() is told all the same", x.where(1, 1), NONE);
    }

    private static void build(Check c) {
        TurningTown x = Check.town("012345678905;ha,ca,ta");
        c.due("build(0, 4)", x.build(0, 4), 0);
        c.due("build(0, 3)", x.build(0, 3), 4);
        c.due("build(0, 3) again", x.build(0, 3), 3);
        c.due("build(2, 1)", x.build(2, 1), 2);
        c.due("house(2, 0)", x.house(2, 0), 1);
        c.due("build(3, 0)", x.build(3, 0), UNKNOWN);
        c.due("build(-1, 0)", x.build(-1, 0), UNKNOWN);
        c.due("build(3, 9)", x.build(3, 9), UNKNOWN);
        c.due("build(0, 5)", x.build(0, 5), OUTSIDE);
        c.due("build(0, -1)", x.build(0, -1), OUTSIDE);
        night(c, x, 1, 4, 0, 4, 1, 2);
        night(c, x, 1, 4, 2, 4, NONE, 2);
        c.due("build(1, 0) while it is down", x.build(1, 0), STATE);
        c.due("build(1, 5) while it is down", x.build(1, 5), OUTSIDE);
        c.due("house(1, 0) is as it was", x.house(1, 0), 4);
        c.due("build(0, 0) while another is down", x.build(0, 0), 3);
        c.due("build() takes no night", x.count(5), 2);
    }

    private static void swap(Check c) {
        TurningTown x = Check.town("012345678905;ha,ca,ta,hb");
        c.due("swap(0, 3)", x.swap(0, 3), 3);
        c.dueAll("swap: plots", Check.plots(x), 3, 1, 2, 0);
        c.dueAll("swap: row", Check.row(x), 0, 1, 2, 3);
        c.due("swap: plot(0, 1)", x.plot(0, 1), 3);
        c.due("swap: plot(3, 1)", x.plot(3, 1), 0);
        c.due("swap: the front stays", x.count(2), 3);
        c.due("swap: nothing is had", x.count(7), 0);
        night(c, x, 1, 4, 0, 4, 1, 2, 0);
        c.due("swap(3, 0)", x.swap(3, 0), 4);
        c.due("swap(1, 1)", x.swap(1, 1), UNKNOWN);
        c.due("swap(4, 1)", x.swap(4, 1), UNKNOWN);
        c.due("swap(1, 4)", x.swap(1, 4), UNKNOWN);
        c.due("swap(-1, 1)", x.swap(-1, 1), UNKNOWN);
        c.due("swap(1, MIN)", x.swap(1, Integer.MIN_VALUE), UNKNOWN);
        night(c, x, 1, 4, 2, 0, NONE, 2, 4);
        c.due("swap(1, 0) of one that is down", x.swap(1, 0), STATE);
        c.due("swap(0, 1) with one that is down", x.swap(0, 1), STATE);
        c.due("swap(1, 1) of one that is down", x.swap(1, 1), UNKNOWN);
        c.dueAll("refused: plots", Check.plots(x), 0, NONE, 2, 4);
        c.due("swap(0, 3) while another is down", x.swap(0, 3), 4);
        c.dueAll("swapped while another is down", Check.plots(x), 4, NONE, 2, 0);
    }
}
