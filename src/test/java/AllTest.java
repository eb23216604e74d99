/** Promises 26 to 29: images, counts, the digest; and that refusals change nothing. */
public final class AllTest {
    private static final int NONE = TurningTown.NONE, OUTSIDE = TurningTown.OUTSIDE, STATE = TurningTown.STATE;

    public static void main(String[] args) {
        Check c = new Check();
        image(c);
        imageAndSquares(c);
        count(c);
        digestOfNothing(c);
        digestOfATown(c);
        refusalsChangeNothing(c);
        c.end();
    }

    private static void image(Check c) {
        TurningTown x = Check.town("012345678905;ha,ca,ta");
        Check.nights(x, 2);
        x.wish(0, 3, 4);
        x.see(2, 3, 4);
        x.see(2, 4, 9);
        c.due("restore() ahead of image()", x.restore(), STATE);
        c.due("image()", x.image(), 2);
        long before = x.digest();
        Check.nights(x, 5);
        x.snow();
        x.build(0, 3);
        x.swap(0, 2);
        x.give();
        x.forget();
        x.wish(1, 1, 1);
        x.wish(1, 1, 1);
        c.due("all is otherwise", x.digest() == before ? 1 : 0, 0);
        c.due("restore()", x.restore(), 2);
        c.due("all is as it was", x.digest(), before);
        c.due("house(0, 0)", x.house(0, 0), 0);
        c.dueAll("plots", Check.plots(x), 3, NONE, 2);
        c.dueAll("row", Check.row(x), 1, 2, 0);
        c.dueAll("had", Check.had(x), 6, 1, 4);
        c.due("down for", x.count(4), 2);
        c.due("wishes", x.count(8), 1);
        c.due("seen", x.count(9), 2);
        c.due("order(0) by the wish that was kept", x.order(0), 1);
        Check.nights(x, 3);
        c.due("restore() a second time", x.restore(), 2);
        c.dueAll("plots", Check.plots(x), 3, NONE, 2);
        // Neither the page nor how often order() was done is kept.
        x.letter('7');
        x.order(0);
        x.restore();
        c.due("letters stay", x.count(10), 1);
        c.due("orders stay", x.count(12), 2);
        x.night();
        c.due("a later image()", x.image(), 3);
        imageOfNotes(c);
        x.night();
        c.due("restore() of the later one", x.restore(), 3);
    }

    private static void imageOfNotes(Check c) {
        TurningTown x = Check.town("012345678905;ha,hb");
        x.wish(1, 2, 1);
        x.see(0, 2, 2);
        x.image();
        c.due("order(10) by a wish", x.order(10), 1);
        c.due("house(0, 5) by what is seen", x.house(0, 5), 1 | 2);
        x.give();
        x.forget();
        x.wish(0, 9, 2);
        x.see(1, 9, 1);
        c.due("order(10) by another wish", x.order(10), 0);
        c.due("house(0, 5) by another sight", x.house(0, 5), 31);
        x.restore();
        c.due("order(10) by the wish that was kept", x.order(10), 1);
        c.due("house(0, 5) by what was kept", x.house(0, 5), 1 | 2);
        c.due("house(1, 5) by what was kept", x.house(1, 5), 31);
    }

    private static void imageAndSquares(Check c) {
        TurningTown x = Check.town("012345678905;ha,ca,ta");
        x.image();
        Check.write(x, "0");
        c.due("no square()", x.square(), STATE);
        c.due("restore() behind none", x.restore(), 0);
        x.blank();
        Check.write(x, "012345678905;ha,ca,ta");
        x.square();
        c.due("restore() behind another square", x.restore(), STATE);
        c.due("image() of that", x.image(), 0);
        x.snow();
        c.due("restore() of that", x.restore(), 0);
        c.due("nights", x.count(5), 0);
    }

    private static void count(Check c) {
        TurningTown x = Check.town("304159265358;td,hk,ea,sg,cb,he");
        dueCounts(c, x, 6, 6, 5, 0, 0, 0, 3 + 4 + 1 + 5 + 9, 0, 0, 0, 0, 1, 0);
        Check.nights(x, 2);
        x.snow();
        x.wish(0, 0, 1);
        x.see(0, 0, 1);
        x.see(0, 0, 2);
        x.order(13);
        Check.write(x, "4711");
        // Houses on plots 6, 7, none, 3, 4, 5: 23 together; on night 1 the heavy one had 4, too.
        dueCounts(c, x, 6, 5, 7, 2, 1, 3, 23, 27 + 23 + 23, 1, 2, 4, 1, 1);
        for (int what : new int[] {Integer.MIN_VALUE, -1, 13, 14, Integer.MAX_VALUE}) {
            c.due("count(" + what + ")", x.count(what), OUTSIDE);
        }
    }

    private static void dueCounts(Check c, TurningTown x, long... counts) {
        long[] got = new long[13];
        for (int what = 0; what < 13; what++) {
            got[what] = x.count(what);
        }
        c.dueAll("count", got, counts);
    }

    private static void digestOfNothing(Check c) {
        TurningTown x = new TurningTown();
        // Without a SQUARE neither plots nor AGAIN nor rings() go in, not even as STATE.
        c.due("digest() of a new object", x.digest(), 2723840464553809399L);
        x.letter('a');
        x.letter('b');
        long due = 31 * (31 * 1193L + 'a') + 'b';
        for (int what = 0; what < 13; what++) {
            due = 31 * due + (what == 10 ? 2 : 0);
        }
        c.due("digest() with two letters", x.digest(), due);
        x.square();
        c.due("digest() behind a page that is no square", x.digest(), due);
    }

    private static void digestOfATown(Check c) {
        TurningTown x = Check.town("000000000012;ha,hb");
        long due = 1193;
        // Of house 0: kind, like, plot, place, had, kinds, look, trade, where behind 5, will for 9.
        long[] tells = {
            0, 0, 0, 0, 0, 31, 4, 0, 6, 2 - 1,
            0, 1, 1, 1, 0, 31, 0, 1, 5, 0};
        tells[16] = x.house(1, 6);
        for (long told : tells) {
            due = 31 * due + told;
        }
        for (int plot = 0; plot < 12; plot++) {
            due = 31 * due + (plot == 10 ? 1 : plot == 11 ? 2 : 0);
            due = 31 * due + (plot < 2 ? plot : NONE);
            due = 31 * due + (plot < 2 ? 1 : 0);
        }
        due = 31 * due + 12;
        due = 31 * due;
        long[] counts = {2, 2, 1, 0, 0, 0, 0, 0, 0, 0, 0, 1, 0};
        for (long told : counts) {
            due = 31 * due + told;
        }
        c.due("digest() of a town", x.digest(), due);
        c.due("digest() again", x.digest(), due);
    }

    private static void refusalsChangeNothing(Check c) {
        TurningTown x = Check.town("304159265358;td,hk,ea,sg,cb,he");
        Check.nights(x, 2);
        Check.write(x, "1x");
        long before = x.digest();
        x.letter(0);
        x.letter(127);
        x.square();
        x.house(6, 0);
        x.house(0, 8);
        x.as(0, 5);
        x.plot(12, 0);
        x.plot(0, 3);
        x.build(2, 0);
        x.build(0, 5);
        x.swap(2, 0);
        x.swap(0, 0);
        x.where(0, 401);
        x.when(0, 12);
        x.neighbours(0, 0);
        x.post(0, 12);
        x.will(0, 61);
        x.wish(0, 0, 41);
        x.order(1);
        x.see(0, 0, 41);
        x.years(61, 0, 0);
        x.restore();
        x.count(13);
        c.due("refusals change nothing", x.digest(), before);
    }
}
