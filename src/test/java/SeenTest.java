/** Promises 23 to 25, and of promise 6 kinds and look: what is seen, and years. */
public final class SeenTest {
    private static final int NONE = TurningTown.NONE, UNKNOWN = TurningTown.UNKNOWN, OUTSIDE = TurningTown.OUTSIDE;
    private static final int FULL = TurningTown.FULL;
    private static final String TWO = "012345678905;ha,hb";

    public static void main(String[] args) {
        Check c = new Check();
        see(c);
        forget(c);
        kinds(c);
        kindsOfOneThatIsDown(c);
        fromNow(c);
        years(c);
        yearsWithOneDown(c);
        c.end();
    }

    private static void see(Check c) {
        TurningTown x = Check.town(TWO);
        c.due("see(2, 0, 1)", x.see(2, 0, 1), UNKNOWN);
        c.due("see(-1, 0, 1)", x.see(-1, 0, 1), UNKNOWN);
        c.due("see(0, 12, 1)", x.see(0, 12, 1), UNKNOWN);
        c.due("see(0, -2, 1)", x.see(0, -2, 1), UNKNOWN);
        c.due("see(0, 12, 0)", x.see(0, 12, 0), UNKNOWN);
        c.due("see(0, 0, 0)", x.see(0, 0, 0), OUTSIDE);
        c.due("see(0, 0, 41)", x.see(0, 0, 41), OUTSIDE);
        c.due("see(0, -1, 1)", x.see(0, -1, 1), 1);
        c.due("see(0, 11, 40)", x.see(0, 11, 40), 2);
        for (int size = 3; size <= 6; size++) {
            c.due("see(1, 0, 1) as number " + size, x.see(1, 0, 1), size);
        }
        c.due("see(1, 0, 1) as number 7", x.see(1, 0, 1), FULL);
        c.due("see(1, 0, 0) as number 7", x.see(1, 0, 0), OUTSIDE);
        c.due("see(2, 0, 1) as number 7", x.see(2, 0, 1), UNKNOWN);
        c.due("count(9)", x.count(9), 6);
    }

    private static void forget(Check c) {
        TurningTown x = Check.town(TWO);
        c.due("forget() of none", x.forget(), 0);
        x.see(0, 7, 1);
        x.see(0, 8, 1);
        c.due("forget() of two", x.forget(), 2);
        c.due("forget() again", x.forget(), 0);
        c.due("count(9)", x.count(9), 0);
        c.due("house(0, 5) behind forget()", x.house(0, 5), 31);
    }

    /*
     * House 0 beside a plain one, behind nights 1 to 4: as a house on 2, 2, 4, 4; heavy down, 2, 2, down;
     * as a twin on 2, 4, 6, 8; as a shop on 3, 3, 6, 6; as a chapel down, down, 2, 2.
     */
    private static void kinds(Check c) {
        TurningTown x = Check.town(TWO);
        dueKinds(c, x, 0, 31, 4);
        x.see(0, 2, 1);
        dueKinds(c, x, 0, 1 | 4, 2);
        x.see(0, 2, 2);
        dueKinds(c, x, 0, 1, 1);
        x.see(1, 11, 1);
        dueKinds(c, x, 0, 1, 1);
        dueKinds(c, x, 1, 0, NONE);
        x.see(0, 4, 2);
        dueKinds(c, x, 0, 0, NONE);
        x.forget();
        x.see(0, NONE, 1);
        dueKinds(c, x, 0, 2 | 16, 2);
        x.forget();
        x.see(0, 6, 3);
        dueKinds(c, x, 0, 4 | 8, 1);
        x.forget();
        x.see(0, 2, 3);
        // Both are down behind night 1; behind night 2 one of them is not.
        dueKinds(c, x, 0, 2 | 16, 2);
        // Its own kind is not known, so that it doesn't matter.
        for (int kind = 0; kind < 5; kind++) {
            x.build(0, kind);
            dueKinds(c, x, 0, 2 | 16, 2);
        }
        x.forget();
        dueKinds(c, x, 0, 31, 4);
        TurningTown late = Check.town("012345678905;sa,ca,sa,ea,ea");
        Check.nights(late, 3);
        dueKinds(c, late, 1, 31, 40);
        // The other one's kind does.
        x.build(0, 0);
        x.build(1, 3);
        x.see(0, 5, 3);
        dueKinds(c, x, 0, 1, 1);
    }

    private static void dueKinds(Check c, TurningTown x, int house, int kinds, int look) {
        c.due("house(" + house + ", 5)", x.house(house, 5), kinds);
        c.due("house(" + house + ", 6)", x.house(house, 6), look);
    }

    private static void kindsOfOneThatIsDown(Check c) {
        TurningTown x = Check.town("012345678905;ca,hb");
        x.night();
        // It stays down for as long as it does, and is put up then as the kind that it is taken for.
        x.see(0, NONE, 1);
        c.due("down: house(0, 5)", x.house(0, 5), 31);
        x.see(0, 2, 2);
        c.due("down: house(0, 5) put up on 2", x.house(0, 5), 1 | 2 | 4 | 16);
        // A twin takes the other one along, and is moved the night behind that again.
        x.see(0, 4, 3);
        c.due("down: house(0, 5) put up on 2, then 4", x.house(0, 5), 4);
        x.forget();
        x.see(0, 3, 2);
        c.due("down: house(0, 5) put up on 3", x.house(0, 5), 8);
        x.forget();
        x.see(0, 2, 1);
        c.due("down: house(0, 5) put up too early", x.house(0, 5), 0);
    }

    private static void fromNow(Check c) {
        TurningTown x = Check.town(TWO);
        x.see(0, 2, 1);
        c.due("house(0, 5) ahead of a night", x.house(0, 5), 1 | 4);
        x.night();
        // Now the other one is moved first, and house 0 is on plot 2 whatever it is.
        c.due("house(0, 5) behind a night", x.house(0, 5), 31);
        c.due("count(9) behind a night", x.count(9), 1);
    }

    private static void years(Check c) {
        TurningTown x = Check.town(TWO);
        c.due("years(1, 0, 0)", x.years(1, 0, 0), 0);
        c.due("years(1, 0, 1)", x.years(1, 0, 1), 1);
        c.due("years(1, 0, 2)", x.years(1, 0, 2), 12345);
        c.due("years(1, 1, 0)", x.years(1, 1, 0), 1);
        c.due("years(1, 1, 1)", x.years(1, 1, 1), 3);
        c.due("years(1, 1, 2)", x.years(1, 1, 2), 1103527590);
        c.due("years(2, 1, 2)", x.years(2, 1, 2), 377401575);
        c.due("years(3, 1, 2)", x.years(3, 1, 2), 662824084);
        // By seed 1 it snows on night 9 of the first ten.
        c.due("years(8, 1, 0)", x.years(8, 1, 0), 8);
        c.due("years(9, 1, 0)", x.years(9, 1, 0), 8);
        c.due("years(10, 1, 0)", x.years(10, 1, 0), 9);
        c.due("years(10, 1, 1)", x.years(10, 1, 1), 106);
        c.due("years(1, MAX, 2)", x.years(1, Integer.MAX_VALUE, 2), 1043980748);
        for (int nights : new int[] {Integer.MIN_VALUE, -1, 0, 61, Integer.MAX_VALUE}) {
            c.due("years(" + nights + ", 0, 0)", x.years(nights, 0, 0), OUTSIDE);
        }
        c.due("years(1, -1, 0)", x.years(1, -1, 0), OUTSIDE);
        c.due("years(1, MIN, 0)", x.years(1, Integer.MIN_VALUE, 0), OUTSIDE);
        c.due("years(1, 0, 3)", x.years(1, 0, 3), OUTSIDE);
        c.due("years(1, 0, -1)", x.years(1, 0, -1), OUTSIDE);
        long seed = 2147480000L;
        int dry = 0;
        for (int night = 1; night <= 60; night++) {
            seed = (1103515245L * seed + 12345) % 2147483648L;
            dry += (seed >> 16) % 4 == 0 ? 0 : 1;
            c.due("years(" + night + ", 2147480000, 0)", x.years(night, 2147480000, 0), dry);
            c.due("years(" + night + ", 2147480000, 2)", x.years(night, 2147480000, 2), seed);
        }
        c.due("no night has gone", x.count(5), 0);
    }

    private static void yearsWithOneDown(Check c) {
        TurningTown x = Check.town("555555555555;ca,hb");
        x.night();
        // By seed 1 there is no snow on eight nights: 5 for the other one behind each, 5 for the
        // chapel behind nights 2, 3, 6 and 7; on nights 4 and 8 it is taken down again.
        c.due("years(8, 1, 1)", x.years(8, 1, 1), 5 * 8 + 5 * 4);
        // By seed 0 the first night is one of snow: the chapel stays down one night longer.
        c.due("years(1, 0, 1)", x.years(1, 0, 1), 5);
        c.due("it is down as before", x.count(4), 2);
    }
}
