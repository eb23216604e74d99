/** Promises 1 to 8: a new object, the page, the square, and what is told of houses and plots. */
public final class SquareTest {
    private static final int NONE = TurningTown.NONE, UNKNOWN = TurningTown.UNKNOWN, OUTSIDE = TurningTown.OUTSIDE;
    private static final int STATE = TurningTown.STATE, FULL = TurningTown.FULL;
    private static final int[] ODD = {Integer.MIN_VALUE, -104, -2, -1, 12, 13, 126, Integer.MAX_VALUE};
    private static final String SIX = "304159265358;td,hk,ea,sg,cb,he";

    public static void main(String[] args) {
        Check c = new Check();
        promise1(c);
        promise2(c);
        promise3(c);
        promise4(c);
        promise5(c);
        promise5BeginsAnew(c);
        promise6(c);
        promise7(c);
        promise8(c);
        c.end();
    }

    private static void promise1(Check c) {
        TurningTown x = new TurningTown();
        for (int what = 0; what <= 12; what++) {
            c.due("new: count(" + what + ")", x.count(what), 0);
        }
        c.due("new: fault()", x.fault(), 0);
        c.due("new: blank()", x.blank(), 0);
        c.due("new: square()", x.square(), STATE);
        c.due("new: house(0, 0)", x.house(0, 0), UNKNOWN);
        c.due("new: house(0, 9)", x.house(0, 9), UNKNOWN);
        c.due("new: as(0, 0)", x.as(0, 0), UNKNOWN);
        c.due("new: plot(0, 0)", x.plot(0, 0), UNKNOWN);
        c.due("new: plot(0, 9)", x.plot(0, 9), UNKNOWN);
        c.due("new: night()", x.night(), STATE);
        c.due("new: snow()", x.snow(), STATE);
        c.due("new: build(0, 0)", x.build(0, 0), UNKNOWN);
        c.due("new: swap(0, 1)", x.swap(0, 1), UNKNOWN);
        c.due("new: where(0, 0)", x.where(0, 0), UNKNOWN);
        c.due("new: when(0, 0)", x.when(0, 0), UNKNOWN);
        c.due("new: neighbours(0, 1)", x.neighbours(0, 1), UNKNOWN);
        c.due("new: again()", x.again(), STATE);
        c.due("new: post(0, 0)", x.post(0, 0), UNKNOWN);
        c.due("new: will(0, 1)", x.will(0, 1), UNKNOWN);
        c.due("new: rings()", x.rings(), STATE);
        c.due("new: wish(0, 0, 1)", x.wish(0, 0, 1), UNKNOWN);
        c.due("new: give()", x.give(), 0);
        c.due("new: order(0)", x.order(0), STATE);
        c.due("new: order(9)", x.order(9), OUTSIDE);
        c.due("new: see(0, 0, 1)", x.see(0, 0, 1), UNKNOWN);
        c.due("new: forget()", x.forget(), 0);
        c.due("new: years(1, 0, 0)", x.years(1, 0, 0), STATE);
        c.due("new: years(0, 0, 0)", x.years(0, 0, 0), OUTSIDE);
        c.due("new: image()", x.image(), STATE);
        c.due("new: restore()", x.restore(), STATE);
        c.due("new: count(12)", x.count(12), 0);
    }

    private static void promise2(Check c) {
        TurningTown x = new TurningTown();
        c.due("letter(0)", x.letter(0), OUTSIDE);
        c.due("letter(127)", x.letter(127), OUTSIDE);
        c.due("letter(-1)", x.letter(-1), OUTSIDE);
        c.due("letter(MIN)", x.letter(Integer.MIN_VALUE), OUTSIDE);
        c.due("letter(MAX)", x.letter(Integer.MAX_VALUE), OUTSIDE);
        c.due("letter(1)", x.letter(1), 1);
        c.due("letter(126)", x.letter(126), 2);
        for (int size = 3; size <= 32; size++) {
            c.due("letter(48) as number " + size, x.letter(48), size);
        }
        c.due("letter(48) as number 33", x.letter(48), FULL);
        c.due("letter(0) as number 33", x.letter(0), OUTSIDE);
        c.due("count(10) of a full page", x.count(10), 32);
        c.due("blank() of a full page", x.blank(), 32);
        c.due("letter(48) behind that", x.letter(48), 1);
    }

    private static void promise3(Check c) {
        TurningTown x = new TurningTown();
        c.due("blank() of none", x.blank(), 0);
        Check.write(x, "0123");
        c.due("blank() of four", x.blank(), 4);
        c.due("blank() again", x.blank(), 0);
        c.due("count(10) behind blank()", x.count(10), 0);
        Check.write(x, SIX);
        c.due("square() behind blank()", x.square(), 6);
    }

    private static void promise4(Check c) {
        fault(c, "", 0);
        fault(c, "x", 0);
        fault(c, "/", 0);
        fault(c, ":", 0);
        fault(c, ";", 0);
        fault(c, "0123", 4);
        fault(c, "0123x5x", 4);
        fault(c, "01234567890;", 11);
        fault(c, "012345678901", 12);
        fault(c, "0123456789012", 12);
        fault(c, "012345678901,", 12);
        fault(c, "012345678901;", 13);
        fault(c, "012345678901;a", 13);
        fault(c, "012345678901;H", 13);
        fault(c, "012345678901;,", 13);
        fault(c, "012345678901;5", 13);
        for (String kind : "h e t s c".split(" ")) {
            fault(c, "012345678901;" + kind, 14);
        }
        fault(c, "012345678901;h`", 14);
        fault(c, "012345678901;hm", 14);
        fault(c, "012345678901;hA", 14);
        fault(c, "012345678901;h0", 14);
        fault(c, "012345678901;ha", 15);
        fault(c, "012345678901;hl", 15);
        fault(c, "012345678901;ha;", 15);
        fault(c, "012345678901;ha,", 16);
        fault(c, "012345678901;ha,,", 16);
        fault(c, "012345678901;ha,ta", 18);
        fault(c, "012345678901;ha,ta ", 18);
        fault(c, "012345678901;ha,ta,", 19);
        fault(c, "012345678901;ha,ta,x", 19);
        fault(c, SIX, 30);
        fault(c, SIX + ",", 30);
        fault(c, SIX + ",h", 30);
        fault(c, SIX + "h", 30);
    }

    private static void fault(Check c, String text, int due) {
        TurningTown x = new TurningTown();
        Check.write(x, text);
        c.due("fault() of " + text, x.fault(), due);
        c.due("count(10) behind fault() of " + text, x.count(10), text.length());
    }

    private static void promise5(Check c) {
        square(c, "", STATE);
        square(c, "012345678901", STATE);
        square(c, "012345678901;", STATE);
        square(c, "012345678901;h", STATE);
        square(c, "012345678901;ha", STATE);
        square(c, "012345678901;ha,", STATE);
        square(c, "012345678901;ha,h", STATE);
        square(c, "012345678901;ha,hb", 2);
        square(c, "012345678901;ha,hb,", STATE);
        square(c, "012345678901;ha,hb,h", STATE);
        square(c, "012345678901;ha,hb,hl", 3);
        square(c, "999999999999;ca,ca,ca,ca", 4);
        square(c, "000000000000;tl,tl,tl,tl,tl", 5);
        square(c, SIX, 6);
        square(c, SIX + ",", STATE);
        square(c, SIX + ",h", STATE);
        square(c, "012345678901;hm,hb", STATE);
        square(c, "01234567890x;ha,hb", STATE);
    }

    private static void square(Check c, String text, int due) {
        TurningTown x = new TurningTown();
        Check.write(x, text);
        c.due("square() of " + text, x.square(), due);
        c.due("count(10) behind square() of " + text, x.count(10), due == STATE ? text.length() : 0);
        c.due("count(11) behind square() of " + text, x.count(11), due == STATE ? 0 : 1);
        c.due("count(0) behind square() of " + text, x.count(0), Math.max(due, 0));
    }

    private static void promise5BeginsAnew(Check c) {
        TurningTown x = Check.town("555555555555;ha,cb,hc");
        x.night();
        x.wish(0, 0, 1);
        x.see(0, 0, 1);
        x.order(0);
        x.image();
        x.night();
        Check.write(x, "1111");
        c.due("a wrong page: square()", x.square(), STATE);
        c.due("a wrong page: the nights stay", x.count(5), 2);
        c.due("a wrong page: the wishes stay", x.count(8), 1);
        x.blank();
        Check.write(x, "012345678901;hf,sg");
        c.due("another square()", x.square(), 2);
        c.dueAll("another square: plots", Check.plots(x), 0, 1);
        c.dueAll("another square: had", Check.had(x), 0, 0);
        long[] counts = new long[13];
        for (int what = 0; what <= 12; what++) {
            counts[what] = x.count(what);
        }
        c.dueAll("another square: count()", counts, 2, 2, 1, 0, 0, 0, 1, 0, 0, 0, 0, 2, 1);
        c.due("another square: house(1, 0)", x.house(1, 0), 3);
        c.due("another square: house(0, 1)", x.house(0, 1), 5);
        c.due("another square: house(0, 5)", x.house(0, 5), 31);
        c.due("another square: house(2, 0)", x.house(2, 0), UNKNOWN);
        c.due("another square: plot(2, 1)", x.plot(2, 1), NONE);
        c.due("another square: plot(2, 0)", x.plot(2, 0), 2);
        c.due("another square: restore()", x.restore(), STATE);
    }

    private static void promise6(Check c) {
        TurningTown x = Check.town(SIX);
        int[] kinds = {2, 0, 1, 3, 4, 0};
        int[] likes = {3, 10, 0, 6, 1, 4};
        for (int house = 0; house < 6; house++) {
            c.due("house(" + house + ", 0)", x.house(house, 0), kinds[house]);
            c.due("house(" + house + ", 1)", x.house(house, 1), likes[house]);
            c.due("house(" + house + ", 2)", x.house(house, 2), house);
            c.due("house(" + house + ", 3)", x.house(house, 3), house);
            c.due("house(" + house + ", 4)", x.house(house, 4), 0);
            c.due("house(" + house + ", 5)", x.house(house, 5), 31);
        }
        // The twin takes house 1 with it to plots 6 and 7; then the heavy one is taken down.
        Check.nights(x, 2);
        c.dueAll("behind 2 nights: plots", Check.plots(x), 6, 7, NONE, 3, 4, 5);
        c.dueAll("behind 2 nights: row", Check.row(x), 2, 3, 4, 5, 0, 1);
        // Worths: plot 6 is 2, 7 is 6, 2 is 4, 3 is 1, 4 is 5, 5 is 9.
        c.dueAll("behind 2 nights: had", Check.had(x), 4, 12, 4, 2, 10, 18);
        c.due("house(2, 7) of one that is down", x.house(2, 7), NONE);
        c.due("house(2, 2) of one that is down", x.house(2, 2), NONE);
        for (int odd : ODD) {
            c.due("house(" + odd + ", 0)", x.house(odd, 0), UNKNOWN);
            c.due("house(" + odd + ", -1)", x.house(odd, -1), UNKNOWN);
            c.due("house(0, " + odd + ")", x.house(0, odd), OUTSIDE);
        }
        c.due("house(6, 0)", x.house(6, 0), UNKNOWN);
        c.due("house(5, 8)", x.house(5, 8), OUTSIDE);
    }

    private static void promise7(Check c) {
        TurningTown x = Check.town("012345678901;ha,ea,ta,sa,ca");
        boolean[][] is = {
            {true, false, false, false, false},
            {true, true, false, false, false},
            {true, false, true, false, false},
            {true, false, false, true, false},
            {true, true, false, false, true}};
        for (int house = 0; house < 5; house++) {
            for (int kind = 0; kind < 5; kind++) {
                c.due("as(" + house + ", " + kind + ")", x.as(house, kind), is[house][kind] ? house : NONE);
            }
            c.due("as(" + house + ", 5)", x.as(house, 5), OUTSIDE);
            c.due("as(" + house + ", -1)", x.as(house, -1), OUTSIDE);
        }
        c.due("as(5, 0)", x.as(5, 0), UNKNOWN);
        c.due("as(5, 5)", x.as(5, 5), UNKNOWN);
        c.due("as(-1, 0)", x.as(-1, 0), UNKNOWN);
        x.build(0, 4);
        c.due("as(0, 1) once it is a chapel", x.as(0, 1), 0);
    }

    private static void promise8(Check c) {
        TurningTown x = Check.town("304159265358;ha,ca,hl");
        int[] worth = {3, 0, 4, 1, 5, 9, 2, 6, 5, 3, 5, 8};
        int[] who = {0, 1, 2, NONE, NONE, NONE, NONE, NONE, NONE, NONE, NONE, NONE};
        int[] likers = {2, 0, 0, 0, 0, 0, 0, 0, 0, 0, 0, 1};
        for (int plot = 0; plot < 12; plot++) {
            c.due("plot(" + plot + ", 0)", x.plot(plot, 0), worth[plot]);
            c.due("plot(" + plot + ", 1)", x.plot(plot, 1), who[plot]);
            c.due("plot(" + plot + ", 2)", x.plot(plot, 2), likers[plot]);
        }
        Check.nights(x, 2);
        c.due("plot(0, 1) left by a house", x.plot(0, 1), NONE);
        c.due("plot(1, 1) left by one that is down", x.plot(1, 1), NONE);
        c.due("plot(3, 1)", x.plot(3, 1), 0);
        for (int odd : ODD) {
            c.due("plot(" + odd + ", 0)", x.plot(odd, 0), UNKNOWN);
            c.due("plot(" + odd + ", 3)", x.plot(odd, 3), UNKNOWN);
            c.due("plot(0, " + odd + ")", x.plot(0, odd), OUTSIDE);
        }
        c.due("plot(11, 3)", x.plot(11, 3), OUTSIDE);
    }
}
