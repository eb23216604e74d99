/** Promises 20 to 22: wishes, and in which order to begin. */
public final class WishTest {
    private static final int NONE = TurningTown.NONE, UNKNOWN = TurningTown.UNKNOWN, OUTSIDE = TurningTown.OUTSIDE;
    private static final int STATE = TurningTown.STATE, FULL = TurningTown.FULL;

    public static void main(String[] args) {
        Check c = new Check();
        wish(c);
        give(c);
        order(c);
        orderAsBuiltNow(c);
        orderOfMany(c);
        orderEdges(c);
        c.end();
    }

    private static void wish(Check c) {
        TurningTown x = Check.town("012345678905;ha,hb,hc");
        c.due("wish(3, 0, 1)", x.wish(3, 0, 1), UNKNOWN);
        c.due("wish(-1, 0, 1)", x.wish(-1, 0, 1), UNKNOWN);
        c.due("wish(0, 12, 1)", x.wish(0, 12, 1), UNKNOWN);
        c.due("wish(0, -1, 1)", x.wish(0, -1, 1), UNKNOWN);
        c.due("wish(0, 12, 0)", x.wish(0, 12, 0), UNKNOWN);
        c.due("wish(0, 0, 0)", x.wish(0, 0, 0), OUTSIDE);
        c.due("wish(0, 0, 41)", x.wish(0, 0, 41), OUTSIDE);
        c.due("wish(0, 0, MIN)", x.wish(0, 0, Integer.MIN_VALUE), OUTSIDE);
        c.due("wish(0, 0, 1)", x.wish(0, 0, 1), 1);
        c.due("wish(0, 0, 1) again", x.wish(0, 0, 1), 2);
        c.due("wish(2, 11, 40)", x.wish(2, 11, 40), 3);
        c.due("wish(2, 11, 7)", x.wish(2, 11, 7), 4);
        c.due("wish(1, 1, 3)", x.wish(1, 1, 3), 5);
        c.due("wish(1, 1, 3) as the sixth", x.wish(1, 1, 3), FULL);
        c.due("wish(1, 1, 41) as the sixth", x.wish(1, 1, 41), OUTSIDE);
        c.due("wish(3, 1, 3) as the sixth", x.wish(3, 1, 3), UNKNOWN);
        c.due("count(8)", x.count(8), 5);
    }

    private static void give(Check c) {
        TurningTown x = Check.town("012345678905;ha,hb,hc");
        c.due("give() of none", x.give(), 0);
        x.wish(2, 3, 1);
        x.wish(2, 4, 1);
        c.due("give() of two", x.give(), 2);
        c.due("count(8)", x.count(8), 0);
        c.due("give() again", x.give(), 0);
        c.due("order(0) without wishes", x.order(0), 0);
        c.due("wish() behind give()", x.wish(1, 1, 1), 1);
    }

    private static void dueOrder(Check c, TurningTown x, int many, int... who) {
        c.due("order(0)", x.order(0), many);
        for (int place = 0; place < who.length; place++) {
            c.due("order(" + (10 + place) + ")", x.order(10 + place), who[place]);
        }
    }

    private static void order(Check c) {
        TurningTown x = Check.town("012345678905;ha,hb,hc");
        dueOrder(c, x, 0, 0, 1, 2, NONE, NONE, NONE);
        x = Check.town("012345678905;ha,hb,hc");
        // The first of the row is on plot 3 behind night 1.
        x.wish(2, 3, 1);
        dueOrder(c, x, 1, 2, 0, 1, NONE, NONE, NONE);
        x = Check.town("012345678905;ha,hb,hc");
        // The second one stays on plot 1, the third one on plot 2.
        x.wish(0, 1, 1);
        x.wish(1, 2, 1);
        dueOrder(c, x, 2, 2, 0, 1);
        x = Check.town("012345678905;ha,hb,hc");
        // Both can't be first; of like orders the first by numbers.
        x.wish(2, 3, 1);
        x.wish(1, 3, 1);
        dueOrder(c, x, 1, 1, 0, 2);
        x = Check.town("012345678905;ha,hb,hc");
        // Two wishes against one.
        x.wish(1, 3, 1);
        x.wish(2, 3, 1);
        x.wish(2, 3, 2);
        dueOrder(c, x, 2, 2, 0, 1);
        x = Check.town("012345678905;ha,hb");
        // Behind 40 nights the first one is on plot 4, the other one on plot 5.
        x.wish(1, 4, 40);
        dueOrder(c, x, 1, 1, 0);
    }

    private static void orderAsBuiltNow(Check c) {
        TurningTown x = Check.town("012345678905;ha,ea,hc");
        x.wish(1, 3, 1);
        dueOrder(c, x, 0, 0, 1, 2);
        x.wish(1, 3, 2);
        dueOrder(c, x, 1, 1, 0, 2);
        x = Check.town("012345678905;ha,ea,hc");
        x.wish(1, 3, 1);
        x.build(1, 0);
        x.swap(0, 1);
        Check.nights(x, 3);
        dueOrder(c, x, 1, 1, 0, 2);
        c.dueAll("the row is as it was", Check.row(x), 0, 1, 2);
        x = Check.town("012345678905;ea,ea,hc");
        x.wish(2, 3, 1);
        x.night();
        c.due("one is down", x.count(4), 1);
        dueOrder(c, x, 1, 2, 0, 1);
        c.due("it is down as before", x.count(4), 1);
        c.due("it takes no night", x.count(5), 1);
    }

    private static void orderOfMany(Check c) {
        TurningTown x = Check.town("012345678905;ha,hb,hc,hd,he,hf");
        // Night 1 moves the first one to 6, all others stay: this is the last order by numbers.
        x.wish(5, 6, 1);
        x.wish(4, 1, 1);
        x.wish(3, 2, 1);
        x.wish(2, 3, 1);
        x.wish(1, 4, 1);
        dueOrder(c, x, 5, 5, 4, 3, 2, 1, 0);
    }

    private static void orderEdges(Check c) {
        TurningTown x = Check.town("012345678905;ha,hb,hc");
        for (int what : new int[] {Integer.MIN_VALUE, -1, 1, 2, 9, 16, Integer.MAX_VALUE}) {
            c.due("order(" + what + ")", x.order(what), OUTSIDE);
        }
        c.due("count(12) behind refusals", x.count(12), 0);
        for (int times = 1; times <= 8; times++) {
            c.due("order(15) as number " + times, x.order(15), NONE);
            c.due("count(12)", x.count(12), times);
        }
        c.due("order(0) as number 9", x.order(0), STATE);
        c.due("order(1) as number 9", x.order(1), OUTSIDE);
        c.due("count(12) stays", x.count(12), 8);
        Check.write(x, "012345678905;ha,hb,hc");
        x.square();
        c.due("order(0) with another square", x.order(0), STATE);
    }
}
