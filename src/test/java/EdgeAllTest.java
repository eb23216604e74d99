import java.util.function.Supplier;
import java.util.function.ToIntFunction;

/** Edges of promises 26 to 29, and of what is told of all refusals: a test for each sentence that names one. */
public final class EdgeAllTest {
    private static final int NONE = TurningTown.NONE, UNKNOWN = TurningTown.UNKNOWN, OUTSIDE = TurningTown.OUTSIDE;
    private static final int STATE = TurningTown.STATE, FULL = TurningTown.FULL;
    private static final int MIN = Integer.MIN_VALUE, MAX = Integer.MAX_VALUE;
    private static final String SIX = "304159265358;td,hk,ea,sg,cb,he";
    private static final String TWO = "012345678905;ha,hb";

    public static void main(String[] args) {
        Check c = new Check();
        imageNights(c);
        imageState(c);
        imageLatest(c);
        keepsKinds(c);
        keepsPlots(c);
        keepsTheRow(c);
        keepsTheFront(c);
        keepsHowLongDown(c);
        keepsWhatWasHad(c);
        keepsWishes(c);
        keepsSeen(c);
        keepsNoMore(c);
        restoreAgain(c);
        restoreNone(c);
        restoreAnotherSquare(c);
        countOutside(c);
        countWithoutASquare(c);
        countThatStand(c);
        countFront(c);
        countDown(c);
        countWorthNow(c);
        countLetters(c);
        countSquares(c);
        countOrders(c);
        digestWithoutASquare(c);
        digestWithOne(c);
        digestWraps(c);
        refusedWithoutASquare(c);
        refusedWithOne(c);
        refusedWhileDown(c);
        refusedWhenFull(c);
        refusedWhenSpent(c);
        last(c);
        c.end();
    }

    // ---- promises 26 and 27

    private static void imageNights(Check c) {
        c.sentence("26: An IMAGE is kept: how many NIGHTS there were");
        TurningTown x = Check.town(SIX);
        c.due("image() at first", x.image(), 0);
        x.night();
        c.due("image() behind a night", x.image(), 1);
        x.snow();
        c.due("image() behind snow", x.image(), 2);
        c.due("count(5)", x.count(5), 2);
    }

    private static void imageState(Check c) {
        c.sentence("26: STATE: no SQUARE");
        TurningTown x = new TurningTown();
        c.due("image()", x.image(), STATE);
        c.due("restore() behind that", x.restore(), STATE);
        Check.write(x, SIX);
        c.due("image() with a page alone", x.image(), STATE);
        x.square();
        c.due("restore() of what was refused", x.restore(), STATE);
        c.due("image() with a square", x.image(), 0);
    }

    private static void imageLatest(Check c) {
        c.sentence("26: (one; the latest)");
        TurningTown x = Check.town(TWO);
        x.image();
        Check.nights(x, 3);
        x.image();
        Check.nights(x, 4);
        c.due("restore()", x.restore(), 3);
        c.dueAll("plots", Check.plots(x), 4, 3);
        c.due("restore() again", x.restore(), 3);
        c.dueAll("plots", Check.plots(x), 4, 3);
    }

    private static void keepsKinds(Check c) {
        c.sentence("27: An IMAGE keeps KINDS");
        TurningTown x = Check.town("012345678905;ha,ea,ta,sa,ca");
        x.build(0, 3);
        x.image();
        for (int house = 0; house < 5; house++) {
            x.build(house, (house + 1) % 5);
        }
        x.restore();
        long[] kinds = {3, 1, 2, 3, 4};
        for (int house = 0; house < 5; house++) {
            c.due("house(" + house + ", 0)", x.house(house, 0), kinds[house]);
        }
    }

    private static void keepsPlots(Check c) {
        c.sentence("27: An IMAGE keeps PLOTS");
        TurningTown x = Check.town("012345678905;ha,hb,hc");
        x.swap(0, 2);
        x.image();
        x.swap(0, 1);
        x.swap(1, 2);
        x.restore();
        c.dueAll("plots", Check.plots(x), 2, 1, 0);
        for (int plot = 0; plot < 12; plot++) {
            c.due("plot(" + plot + ", 1)", x.plot(plot, 1), plot < 3 ? 2 - plot : NONE);
        }
    }

    private static void keepsTheRow(Check c) {
        c.sentence("27: An IMAGE keeps THE ROW");
        TurningTown x = Check.town("012345678905;ha,hb,hc");
        x.night();
        x.image();
        x.night();
        c.dueAll("row", Check.row(x), 2, 0, 1);
        x.restore();
        c.dueAll("row that was kept", Check.row(x), 1, 2, 0);
        c.due("first", x.count(3), 1);
        x.night();
        c.dueAll("row behind a night", Check.row(x), 2, 0, 1);
    }

    private static void keepsTheFront(Check c) {
        c.sentence("27: An IMAGE keeps the FRONT");
        TurningTown x = Check.town("012345678905;ha,hb,hc");
        x.swap(0, 2);
        x.image();
        Check.nights(x, 10);
        c.due("front", x.count(2), 0);
        x.restore();
        c.due("front that was kept", x.count(2), 2);
        x.night();
        c.dueAll("plots behind a night", Check.plots(x), 3, 1, 0);
    }

    private static void keepsHowLongDown(Check c) {
        c.sentence("27: An IMAGE keeps how long one is DOWN");
        TurningTown x = Check.town("012345678905;ca,hb");
        x.image();
        x.night();
        x.restore();
        c.due("stays down for, ahead of that", x.count(4), 0);
        c.due("house(0, 2) ahead of that", x.house(0, 2), 0);
        for (int left = 2; left >= 1; left--) {
            x.night();
            c.due("stays down for", x.count(4), left);
            x.image();
            Check.nights(x, 3);
            x.restore();
            c.due("stays down for, as was kept", x.count(4), left);
            c.due("house(0, 2)", x.house(0, 2), NONE);
        }
        c.due("night()", x.night(), 1);
        c.dueAll("plots", Check.plots(x), 2, 1);
    }

    private static void keepsWhatWasHad(Check c) {
        c.sentence("27: An IMAGE keeps what each has had, NIGHTS");
        TurningTown x = Check.town("123456789012;ha,hb");
        x.snow();
        x.image();
        Check.nights(x, 5);
        c.due("restore()", x.restore(), 1);
        c.dueAll("had", Check.had(x), 1, 2);
        c.due("count(7)", x.count(7), 3);
        c.due("count(5)", x.count(5), 1);
        x.snow();
        c.dueAll("had behind snow", Check.had(x), 2, 4);
        c.due("count(5) behind snow", x.count(5), 2);
    }

    private static void keepsWishes(Check c) {
        c.sentence("27: An IMAGE keeps WISHES");
        TurningTown x = Check.town("012345678905;ha,hb,hc");
        x.image();
        x.wish(1, 3, 1);
        x.restore();
        c.due("count(8) of none", x.count(8), 0);
        for (int size = 1; size <= 5; size++) {
            x.wish(2, 3, 1);
        }
        x.image();
        x.give();
        x.wish(1, 3, 1);
        c.due("order(10)", x.order(10), 1);
        x.wish(0, 9, 40);
        x.restore();
        c.due("count(8) of five", x.count(8), 5);
        c.due("wish() above five", x.wish(1, 3, 1), FULL);
        c.due("order(0) by what was kept", x.order(0), 5);
        c.due("order(10) by what was kept", x.order(10), 2);
        x.give();
        // Of a wish the house, the plot and the night are kept.
        x.wish(1, 6, 4);
        x.image();
        x.give();
        x.wish(2, 3, 1);
        x.restore();
        c.due("order(0) by the house, the plot, the night", x.order(0), 1);
        c.due("order(10) by the house, the plot, the night", x.order(10), 1);
    }

    private static void keepsSeen(Check c) {
        c.sentence("27: An IMAGE keeps SEEN");
        TurningTown x = Check.town(TWO);
        x.image();
        x.see(0, NONE, 1);
        x.restore();
        c.due("count(9) of nothing", x.count(9), 0);
        c.due("house(0, 5) of nothing", x.house(0, 5), 31);
        for (int size = 1; size <= 6; size++) {
            x.see(0, NONE, 1);
        }
        x.image();
        x.forget();
        x.see(0, 2, 1);
        c.due("house(0, 5)", x.house(0, 5), 1 | 4);
        x.restore();
        c.due("count(9) of six", x.count(9), 6);
        c.due("see() above six", x.see(0, 2, 1), FULL);
        c.due("house(0, 5) by what was kept", x.house(0, 5), 2 | 16);
        x.forget();
        // Of what is seen the house, the plot and the night are kept.
        x.see(1, 3, 2);
        x.image();
        int kinds = x.house(1, 5);
        c.due("house(1, 5)", kinds, 1 | 4);
        x.forget();
        x.see(0, NONE, 1);
        x.restore();
        c.due("house(1, 5) by the house, the plot, the night", x.house(1, 5), kinds);
        c.due("house(0, 5) of which nothing is seen", x.house(0, 5), 31);
    }

    private static void keepsNoMore(Check c) {
        c.sentence("27: An IMAGE keeps (no more: THE PAGE, and how often, go on)");
        TurningTown x = Check.town(TWO);
        Check.write(x, "12");
        x.image();
        Check.write(x, "345");
        x.order(0);
        c.due("restore()", x.restore(), 0);
        c.due("count(10)", x.count(10), 5);
        c.due("count(11)", x.count(11), 1);
        c.due("count(12)", x.count(12), 1);
    }

    private static void restoreAgain(Check c) {
        c.sentence("27: It goes on from the IMAGE: how many NIGHTS there were (more than once)");
        TurningTown x = Check.town(SIX);
        Check.nights(x, 4);
        x.image();
        long before = x.digest();
        c.due("restore() at once", x.restore(), 4);
        c.due("digest()", x.digest(), before);
        for (int times = 1; times <= 3; times++) {
            Check.nights(x, times);
            x.swap(0, 1);
            x.build(3, 0);
            c.due("restore() as number " + times, x.restore(), 4);
            c.due("digest()", x.digest(), before);
        }
    }

    private static void restoreNone(Check c) {
        c.sentence("27: STATE: none was kept");
        TurningTown x = new TurningTown();
        c.due("restore() without a square", x.restore(), STATE);
        Check.write(x, SIX);
        x.square();
        Check.nights(x, 2);
        long before = x.digest();
        c.due("restore()", x.restore(), STATE);
        c.due("digest()", x.digest(), before);
    }

    private static void restoreAnotherSquare(Check c) {
        c.sentence("27: STATE: or there is another SQUARE since");
        TurningTown x = Check.town(TWO);
        x.night();
        x.image();
        c.due("square() of no page", x.square(), STATE);
        c.due("restore() behind a square() that was refused", x.restore(), 1);
        Check.write(x, TWO);
        c.due("restore() with a page alone", x.restore(), 1);
        x.square();
        // Even one with the same text is another one.
        c.due("restore()", x.restore(), STATE);
        c.due("count(5)", x.count(5), 0);
        c.due("image()", x.image(), 0);
        x.night();
        c.due("restore() of that", x.restore(), 0);
        Check.write(x, SIX);
        x.square();
        c.due("restore() with more houses", x.restore(), STATE);
        c.due("count(0)", x.count(0), 6);
    }

    // ---- promise 28

    private static void countOutside(Check c) {
        c.sentence("28: OUTSIDE (0 to 12)");
        for (TurningTown x : new TurningTown[] {new TurningTown(), Check.town(SIX)}) {
            for (int what : new int[] {MIN, -104, -2, -1, 13, 14, 100, MAX}) {
                c.due("count(" + what + ")", x.count(what), OUTSIDE);
            }
            for (int what = 0; what <= 12; what++) {
                c.due("count(" + what + ") is told", x.count(what) >= 0 ? 1 : 0, 1);
            }
        }
    }

    private static void countWithoutASquare(Check c) {
        c.sentence("28: the FRONT (0: no SQUARE), the first one of THE ROW (0: no SQUARE)");
        TurningTown x = new TurningTown();
        Check.write(x, SIX);
        for (int what = 0; what <= 12; what++) {
            c.due("count(" + what + ")", x.count(what), what == 10 ? 30 : 0);
        }
        x.square();
        c.due("count(2)", x.count(2), 5);
        x.night();
        c.due("count(3)", x.count(3), 2);
    }

    private static void countThatStand(Check c) {
        c.sentence("28: 1 that stand");
        TurningTown x = Check.town("012345678905;ca,hb,hc");
        int[] due = {3, 2, 2, 3, 3, 3, 2, 2, 3};
        for (int night = 0; night < due.length; night++, x.night()) {
            c.due("count(1) behind night " + night, x.count(1), due[night]);
            c.due("count(0) behind night " + night, x.count(0), 3);
        }
    }

    private static void countFront(Check c) {
        c.sentence("28: 2 the FRONT (round behind 11)");
        TurningTown x = Check.town(TWO);
        for (int night = 0; night <= 30; night++, x.night()) {
            c.due("count(2) behind night " + night, x.count(2), (1 + night) % 12);
            c.due("count(3) behind night " + night, x.count(3), night % 2);
        }
    }

    private static void countDown(Check c) {
        c.sentence("28: for how many NIGHTS more it stays DOWN (0: none is)");
        TurningTown x = Check.town("012345678905;ca,eb,hc");
        int[] due = {0, 2, 1, 0, 1, 0, 0, 2, 1, 0};
        for (int night = 0; night < due.length; night++, x.night()) {
            c.due("count(4) behind night " + night, x.count(4), due[night]);
        }
    }

    private static void countWorthNow(Check c) {
        c.sentence("28: 6 WORTH of all houses now, 7 that all have had");
        TurningTown x = Check.town("123456789012;ea,hb");
        c.due("count(6)", x.count(6), 1 + 2);
        c.due("count(7)", x.count(7), 0);
        x.night();
        c.due("count(6) with one down", x.count(6), 2);
        c.due("count(7) with one down", x.count(7), 2);
        x.night();
        c.due("count(6)", x.count(6), 3 + 2);
        c.due("count(7)", x.count(7), 2 + 5);
        x.swap(0, 1);
        c.due("count(6) behind a swap", x.count(6), 3 + 2);
        x = Check.town("999999999999;ha,hb,hc,hd,he,hf");
        for (int night = 1; night <= 400; night++) {
            x.snow();
        }
        c.due("count(7) of the most", x.count(7), 400 * 54);
    }

    private static void countLetters(Check c) {
        c.sentence("28: 10 letters of THE PAGE (none to 32)");
        TurningTown x = new TurningTown();
        for (int size = 0; size <= 32; size++) {
            c.due("count(10)", x.count(10), size);
            x.letter('a');
        }
        x.letter('a');
        c.due("count(10) of a full page", x.count(10), 32);
    }

    private static void countSquares(Check c) {
        c.sentence("28: 11 how often a SQUARE was read");
        TurningTown x = new TurningTown();
        for (int times = 1; times <= 12; times++) {
            c.due("square() of no page", x.square(), STATE);
            Check.write(x, TWO);
            x.square();
            c.due("count(11)", x.count(11), times);
            x.image();
        }
        x.restore();
        c.due("count(11) behind restore()", x.count(11), 12);
    }

    private static void countOrders(Check c) {
        c.sentence("28: 12 how often order() was done");
        TurningTown x = Check.town(TWO);
        x.order(0);
        x.order(1);
        x.order(15);
        c.due("count(12)", x.count(12), 2);
        Check.write(x, TWO);
        x.square();
        c.due("count(12) with another square", x.count(12), 2);
    }

    // ---- promise 29

    private static void digestWithoutASquare(Check c) {
        c.sentence("29: with a SQUARE (there is none)");
        TurningTown x = new TurningTown();
        c.due("digest()", x.digest(), 2723840464553809399L);
        // Letters go in by their codes, ahead of the counts.
        for (int size = 1; size <= 32; size++) {
            x.letter(size);
            long due = 1193;
            for (int code = 1; code <= size; code++) {
                due = 31 * due + code;
            }
            for (int what = 0; what <= 12; what++) {
                due = 31 * due + (what == 10 ? size : 0);
            }
            c.due("digest() with " + size + " letters", x.digest(), due);
        }
        x.blank();
        c.due("digest() behind blank()", x.digest(), 2723840464553809399L);
    }

    private static long told(TurningTown x, String page) {
        long h = 1193;
        for (int house = 0; house < x.count(0); house++) {
            for (int what = 0; what <= 7; what++) {
                h = 31 * h + x.house(house, what);
            }
            h = 31 * h + x.where(house, 5);
            h = 31 * h + x.will(house, 9);
        }
        for (int plot = 0; plot < 12; plot++) {
            for (int what = 0; what <= 2; what++) {
                h = 31 * h + x.plot(plot, what);
            }
        }
        h = 31 * h + x.again();
        h = 31 * h + x.rings();
        for (char letter : page.toCharArray()) {
            h = 31 * h + letter;
        }
        for (int what = 0; what <= 12; what++) {
            h = 31 * h + x.count(what);
        }
        return h;
    }

    private static void digestWithOne(Check c) {
        c.sentence("29: for each of these numbers, in order");
        String[] texts = {TWO, "304159265358;sd,tk,cc", SIX};
        for (String text : texts) {
            TurningTown x = Check.town(text);
            c.due("digest()", x.digest(), told(x, ""));
            Check.nights(x, 2);
            x.see(0, NONE, 2);
            Check.write(x, "~0");
            // With one down, and where NONE goes in as it is.
            c.due("digest() behind two nights", x.digest(), told(x, "~0"));
            c.due("digest() again", x.digest(), told(x, "~0"));
        }
    }

    private static void digestWraps(Check c) {
        c.sentence("29: as longs, wrapping");
        TurningTown x = Check.town(SIX);
        boolean isBelow = false;
        boolean isAbove = false;
        for (int night = 1; night <= 20; night++) {
            x.night();
            long digest = x.digest();
            isBelow |= digest < Integer.MIN_VALUE;
            isAbove |= digest > Integer.MAX_VALUE;
        }
        c.due("some are below all ints", isBelow ? 1 : 0, 1);
        c.due("some are above all ints", isAbove ? 1 : 0, 1);
    }

    // ---- refusals

    /** A call that is refused, on one of two like objects: both go on alike. */
    private static void refused(Check c, Supplier<TurningTown> make, String call, ToIntFunction<TurningTown> run,
            int due) {
        TurningTown x = make.get();
        TurningTown other = make.get();
        c.due(call, run.applyAsInt(x), due);
        c.due(call + ": fault()", x.fault(), other.fault());
        c.due(call + ": digest()", x.digest(), other.digest());
        for (int what : new int[] {0, 10, 11, 12, 13, 14, 15}) {
            c.due(call + ": order(" + what + ")", x.order(what), other.order(what));
        }
        for (int night = 0; night < 5; night++) {
            c.due(call + ": night()", x.night(), other.night());
            c.due(call + ": digest()", x.digest(), other.digest());
        }
        c.due(call + ": restore()", x.restore(), other.restore());
        c.due(call + ": digest()", x.digest(), other.digest());
        c.due(call + ": give()", x.give(), other.give());
        c.due(call + ": forget()", x.forget(), other.forget());
        c.due(call + ": square()", x.square(), other.square());
        c.due(call + ": blank()", x.blank(), other.blank());
    }

    private static void refusedWithoutASquare(Check c) {
        c.sentence("Refusals: they change nothing (no SQUARE)");
        Supplier<TurningTown> none = () -> {
            TurningTown x = new TurningTown();
            Check.write(x, "0123x");
            return x;
        };
        refused(c, none, "letter(0)", x -> x.letter(0), OUTSIDE);
        refused(c, none, "square()", TurningTown::square, STATE);
        refused(c, none, "house(0, 0)", x -> x.house(0, 0), UNKNOWN);
        refused(c, none, "as(0, 0)", x -> x.as(0, 0), UNKNOWN);
        refused(c, none, "plot(0, 0)", x -> x.plot(0, 0), UNKNOWN);
        refused(c, none, "night()", TurningTown::night, STATE);
        refused(c, none, "snow()", TurningTown::snow, STATE);
        refused(c, none, "build(0, 0)", x -> x.build(0, 0), UNKNOWN);
        refused(c, none, "swap(0, 1)", x -> x.swap(0, 1), UNKNOWN);
        refused(c, none, "where(0, 0)", x -> x.where(0, 0), UNKNOWN);
        refused(c, none, "when(0, 0)", x -> x.when(0, 0), UNKNOWN);
        refused(c, none, "neighbours(0, 1)", x -> x.neighbours(0, 1), UNKNOWN);
        refused(c, none, "again()", TurningTown::again, STATE);
        refused(c, none, "post(0, 0)", x -> x.post(0, 0), UNKNOWN);
        refused(c, none, "will(0, 1)", x -> x.will(0, 1), UNKNOWN);
        refused(c, none, "rings()", TurningTown::rings, STATE);
        refused(c, none, "wish(0, 0, 1)", x -> x.wish(0, 0, 1), UNKNOWN);
        refused(c, none, "order(1)", x -> x.order(1), OUTSIDE);
        refused(c, none, "order(0)", x -> x.order(0), STATE);
        refused(c, none, "see(0, 0, 1)", x -> x.see(0, 0, 1), UNKNOWN);
        refused(c, none, "years(0, 0, 0)", x -> x.years(0, 0, 0), OUTSIDE);
        refused(c, none, "years(1, 0, 0)", x -> x.years(1, 0, 0), STATE);
        refused(c, none, "image()", TurningTown::image, STATE);
        refused(c, none, "restore()", TurningTown::restore, STATE);
        refused(c, none, "count(13)", x -> x.count(13), OUTSIDE);
    }

    /** Wishes, sights and an image; house 2 is heavy and the next one to be moved. */
    private static TurningTown busy() {
        TurningTown x = Check.town(SIX);
        x.wish(3, 8, 2);
        x.see(0, 8, 3);
        x.image();
        x.night();
        x.wish(1, 6, 1);
        x.see(5, 5, 1);
        Check.write(x, "30415926535");
        return x;
    }

    private static void refusedWithOne(Check c) {
        c.sentence("Refusals, of several the first as told by each call (with a SQUARE)");
        Supplier<TurningTown> busy = EdgeAllTest::busy;
        refused(c, busy, "letter(127)", x -> x.letter(127), OUTSIDE);
        refused(c, busy, "square()", TurningTown::square, STATE);
        refused(c, busy, "house(6, 8)", x -> x.house(6, 8), UNKNOWN);
        refused(c, busy, "house(5, 8)", x -> x.house(5, 8), OUTSIDE);
        refused(c, busy, "as(6, 5)", x -> x.as(6, 5), UNKNOWN);
        refused(c, busy, "as(5, 5)", x -> x.as(5, 5), OUTSIDE);
        refused(c, busy, "plot(12, 3)", x -> x.plot(12, 3), UNKNOWN);
        refused(c, busy, "plot(11, 3)", x -> x.plot(11, 3), OUTSIDE);
        refused(c, busy, "build(6, 5)", x -> x.build(6, 5), UNKNOWN);
        refused(c, busy, "build(5, 5)", x -> x.build(5, 5), OUTSIDE);
        refused(c, busy, "swap(6, 0)", x -> x.swap(6, 0), UNKNOWN);
        refused(c, busy, "swap(0, 6)", x -> x.swap(0, 6), UNKNOWN);
        refused(c, busy, "swap(5, 5)", x -> x.swap(5, 5), UNKNOWN);
        refused(c, busy, "where(6, 401)", x -> x.where(6, 401), UNKNOWN);
        refused(c, busy, "where(5, 401)", x -> x.where(5, 401), OUTSIDE);
        refused(c, busy, "when(6, 0)", x -> x.when(6, 0), UNKNOWN);
        refused(c, busy, "when(0, 12)", x -> x.when(0, 12), UNKNOWN);
        refused(c, busy, "neighbours(0, 0)", x -> x.neighbours(0, 0), UNKNOWN);
        refused(c, busy, "post(0, 12)", x -> x.post(0, 12), UNKNOWN);
        refused(c, busy, "will(6, 61)", x -> x.will(6, 61), UNKNOWN);
        refused(c, busy, "will(5, 61)", x -> x.will(5, 61), OUTSIDE);
        refused(c, busy, "wish(6, 0, 41)", x -> x.wish(6, 0, 41), UNKNOWN);
        refused(c, busy, "wish(0, 12, 41)", x -> x.wish(0, 12, 41), UNKNOWN);
        refused(c, busy, "wish(0, 0, 41)", x -> x.wish(0, 0, 41), OUTSIDE);
        refused(c, busy, "order(9)", x -> x.order(9), OUTSIDE);
        refused(c, busy, "see(6, 0, 41)", x -> x.see(6, 0, 41), UNKNOWN);
        refused(c, busy, "see(0, 12, 41)", x -> x.see(0, 12, 41), UNKNOWN);
        refused(c, busy, "see(0, 0, 41)", x -> x.see(0, 0, 41), OUTSIDE);
        refused(c, busy, "years(61, 0, 0)", x -> x.years(61, 0, 0), OUTSIDE);
        refused(c, busy, "years(60, -1, 0)", x -> x.years(60, -1, 0), OUTSIDE);
        refused(c, busy, "years(60, 0, 3)", x -> x.years(60, 0, 3), OUTSIDE);
        refused(c, busy, "count(-1)", x -> x.count(-1), OUTSIDE);
    }

    private static void refusedWhileDown(Check c) {
        c.sentence("Refusals, of several the first as told by each call (one is DOWN)");
        Supplier<TurningTown> down = () -> {
            TurningTown x = busy();
            x.night();
            return x;
        };
        c.due("house 2 is down", down.get().house(2, 2), NONE);
        refused(c, down, "build(2, 0)", x -> x.build(2, 0), STATE);
        refused(c, down, "build(2, 5)", x -> x.build(2, 5), OUTSIDE);
        refused(c, down, "build(6, 5)", x -> x.build(6, 5), UNKNOWN);
        refused(c, down, "swap(2, 0)", x -> x.swap(2, 0), STATE);
        refused(c, down, "swap(0, 2)", x -> x.swap(0, 2), STATE);
        refused(c, down, "swap(2, 2)", x -> x.swap(2, 2), UNKNOWN);
        refused(c, down, "swap(2, 6)", x -> x.swap(2, 6), UNKNOWN);
        refused(c, down, "swap(-1, 2)", x -> x.swap(-1, 2), UNKNOWN);
    }

    private static void refusedWhenFull(Check c) {
        c.sentence("Refusals, of several the first as told by each call (it is FULL)");
        Supplier<TurningTown> full = () -> {
            TurningTown x = busy();
            for (int times = 0; times < 21; times++) {
                x.wish(0, 6, 1);
                x.see(0, 6, 1);
                x.letter('0');
            }
            return x;
        };
        refused(c, full, "letter(1)", x -> x.letter(1), FULL);
        refused(c, full, "letter(0)", x -> x.letter(0), OUTSIDE);
        refused(c, full, "square()", TurningTown::square, STATE);
        refused(c, full, "wish(1, 1, 1)", x -> x.wish(1, 1, 1), FULL);
        refused(c, full, "wish(1, 1, 0)", x -> x.wish(1, 1, 0), OUTSIDE);
        refused(c, full, "wish(1, NONE, 1)", x -> x.wish(1, NONE, 1), UNKNOWN);
        refused(c, full, "wish(-1, 1, 0)", x -> x.wish(-1, 1, 0), UNKNOWN);
        refused(c, full, "see(1, 1, 1)", x -> x.see(1, 1, 1), FULL);
        refused(c, full, "see(1, NONE, 0)", x -> x.see(1, NONE, 0), OUTSIDE);
        refused(c, full, "see(1, -2, 1)", x -> x.see(1, -2, 1), UNKNOWN);
        refused(c, full, "see(-1, 1, 0)", x -> x.see(-1, 1, 0), UNKNOWN);
    }

    private static void refusedWhenSpent(Check c) {
        c.sentence("Refusals, of several the first as told by each call (order() was done 8 times)");
        Supplier<TurningTown> spent = () -> {
            TurningTown x = busy();
            for (int times = 0; times < 8; times++) {
                x.order(0);
            }
            return x;
        };
        refused(c, spent, "order(0)", x -> x.order(0), STATE);
        refused(c, spent, "order(15)", x -> x.order(15), STATE);
        refused(c, spent, "order(16)", x -> x.order(16), OUTSIDE);
        refused(c, spent, "order(-1)", x -> x.order(-1), OUTSIDE);
    }

    private static void last(Check c) {
        c.sentence("An object is used for at most 512 calls (the last of them)");
        TurningTown x = new TurningTown();
        Check.write(x, TWO);
        x.square();
        for (int call = 20; call <= 511; call++) {
            x.night();
        }
        // 492 nights: the front is on 493, by twelves.
        c.due("count(2) as call 512", x.count(2), 493 % 12);
    }
}
