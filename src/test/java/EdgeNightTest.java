/** Edges of promises 9 to 12, and of what a NIGHT is: a test for each sentence that names one. */
public final class EdgeNightTest {
    private static final int NONE = TurningTown.NONE, UNKNOWN = TurningTown.UNKNOWN, OUTSIDE = TurningTown.OUTSIDE;
    private static final int STATE = TurningTown.STATE, FULL = TurningTown.FULL;
    private static final int MIN = Integer.MIN_VALUE, MAX = Integer.MAX_VALUE;
    private static final String SIX_SHOPS = "012345678901;sa,sa,sa,sa,sa,sa";

    public static void main(String[] args) {
        Check c = new Check();
        whereNoneStands(c);
        itsOwn(c);
        shopBeyond(c);
        shopRound(c);
        frontAndRow(c);
        twinTakesTheNext(c);
        twinOfTwo(c);
        noThird(c);
        heavyTakesTwo(c);
        chapelTakesThree(c);
        nobodyMeanwhile(c);
        asIfMovedThen(c);
        withATwin(c);
        downHasNothing(c);
        nightMoved(c);
        nightStaysDown(c);
        nightState(c);
        nightFull(c);
        snowMovesNobody(c);
        snowWhileDown(c);
        snowState(c);
        snowFull(c);
        buildUnknown(c);
        buildOutside(c);
        buildState(c);
        buildSame(c);
        swapKeepsTheRow(c);
        swapUnknown(c);
        swapSame(c);
        swapState(c);
        c.end();
    }

    /** Nights, each with how many are moved, and the plots behind the last of them. */
    private static void nights(Check c, TurningTown x, int[] moved, long... plots) {
        for (int due : moved) {
            c.due("night " + (x.count(5) + 1), x.night(), due);
        }
        c.dueAll("plots behind night " + x.count(5), Check.plots(x), plots);
    }

    private static int[] moved(int... each) {
        return each;
    }

    // ---- terms

    private static void whereNoneStands(Check c) {
        c.sentence("it is put up on the next PLOT beyond the FRONT where none stands");
        TurningTown x = Check.town(SIX_SHOPS);
        Check.nights(x, 6);
        c.dueAll("plots", Check.plots(x), 7, 9, 11, 1, 3, 6);
        x.build(0, 0);
        x.swap(0, 4);
        // The front is 6; another stands on 7.
        nights(c, x, moved(1), 8, 9, 11, 1, 7, 6);
        x.build(1, 0);
        x.swap(1, 3);
        // The front is 8; another stands on 9.
        nights(c, x, moved(1), 8, 10, 11, 9, 7, 6);
        x.build(2, 0);
        // The front is 10, and 11 its own, so that it goes to 0 behind it.
        nights(c, x, moved(1), 8, 10, 0, 9, 7, 6);
        c.due("front", x.count(2), 0);
    }

    private static void itsOwn(Check c) {
        c.sentence("its own is none such");
        TurningTown x = Check.town(SIX_SHOPS);
        // On the sixth night the shop on 5 passes 4, the first one, and its own: 6 is the second one.
        nights(c, x, moved(1, 1, 1, 1, 1, 1), 7, 9, 11, 1, 3, 6);
        x.build(0, 0);
        // A plain one on 7 with the front on 6.
        nights(c, x, moved(1), 8, 9, 11, 1, 3, 6);

        x = Check.town("012345678905;ta,sa,ha,ha,ta,sa");
        Check.nights(x, 3);
        x.swap(5, 3);
        x.swap(0, 2);
        Check.nights(x, 2);
        c.dueAll("plots", Check.plots(x), 2, 4, 6, 5, 11, 1);
        c.due("front", x.count(2), 4);
        // Another stands on 5, it itself on 6.
        nights(c, x, moved(1), 2, 4, 7, 5, 11, 1);
    }

    private static void shopBeyond(Check c) {
        c.sentence("a SHOP on the next such one beyond that");
        TurningTown x = Check.town("012345678905;sa,sa");
        nights(c, x, moved(1), 3, 1);
        nights(c, x, moved(1), 3, 5);

        x = Check.town(SIX_SHOPS);
        Check.nights(x, 14);
        x.swap(0, 1);
        x.swap(5, 2);
        Check.nights(x, 3);
        c.dueAll("plots", Check.plots(x), 7, 4, 10, 1, 3, 5);
        c.due("front", x.count(2), 3);
        // 4 is taken, 5 its own, 6 the first one, 7 taken, 8 the second one.
        nights(c, x, moved(1), 7, 4, 10, 1, 3, 8);
        c.due("front", x.count(2), 8);
    }

    private static void shopRound(Check c) {
        c.sentence("a SHOP goes round behind 11, too");
        TurningTown x = Check.town(SIX_SHOPS);
        Check.nights(x, 3);
        c.due("front", x.count(2), 11);
        // 0 and 1 are free.
        nights(c, x, moved(1), 7, 9, 11, 1, 4, 5);

        x = Check.town("012345678905;sa,ha");
        Check.nights(x, 6);
        c.dueAll("plots", Check.plots(x), 9, 10);
        nights(c, x, moved(1), 0, 10);

        x = Check.town("012345678905;sa,ta,ta,sa,sa,ha");
        x.swap(2, 4);
        x.swap(2, 1);
        x.swap(5, 2);
        Check.nights(x, 3);
        c.dueAll("plots", Check.plots(x), 7, 8, 9, 11, 2, 1);
        // From 11: 0 is the first one, 1 taken, 2 its own, 3 the second one.
        nights(c, x, moved(1), 7, 8, 9, 11, 3, 1);
    }

    private static void frontAndRow(Check c) {
        c.sentence("that PLOT is the FRONT then, and the house the last one of THE ROW");
        TurningTown x = Check.town("012345678905;ha,sb,hc");
        x.night();
        c.due("front", x.count(2), 3);
        c.dueAll("row", Check.row(x), 1, 2, 0);
        x.night();
        c.due("front behind a shop", x.count(2), 5);
        c.dueAll("row", Check.row(x), 2, 0, 1);
        x.night();
        c.due("front", x.count(2), 6);
        c.dueAll("row has come round", Check.row(x), 0, 1, 2);
    }

    private static void twinTakesTheNext(Check c) {
        c.sentence("With a TWIN the next one of THE ROW is moved, too, in the same NIGHT, right behind it");
        TurningTown x = Check.town("012345678905;ta,hb,hc");
        nights(c, x, moved(2), 3, 4, 2);
        c.dueAll("row", Check.row(x), 2, 0, 1);
        c.due("front", x.count(2), 4);
        c.due("nights", x.count(5), 1);
        // The twin is last but one of the row, then the last one.
        x = Check.town("012345678905;ha,tb,hc");
        nights(c, x, moved(1, 2), 3, 4, 5);
        c.dueAll("row", Check.row(x), 0, 1, 2);
        x = Check.town("012345678905;ha,hb,tc");
        nights(c, x, moved(1, 1, 2), 6, 4, 5);
        c.dueAll("row", Check.row(x), 1, 2, 0);
    }

    private static void twinOfTwo(Check c) {
        c.sentence("With a TWIN the next one of THE ROW is moved (there are but two)");
        TurningTown x = Check.town("012345678905;ta,hb");
        nights(c, x, moved(2, 2, 2, 2, 2), 10, 11);
        c.dueAll("row", Check.row(x), 0, 1);
        nights(c, x, moved(2), 0, 1);
        x = Check.town("012345678905;ha,tb");
        nights(c, x, moved(1, 2), 4, 3);
        c.dueAll("row", Check.row(x), 1, 0);
    }

    private static void noThird(Check c) {
        c.sentence("but no third one by that");
        TurningTown x = Check.town("012345678905;ta,tb,tc");
        nights(c, x, moved(2), 3, 4, 2);
        c.dueAll("row", Check.row(x), 2, 0, 1);
        nights(c, x, moved(2), 6, 4, 5);
        c.dueAll("row", Check.row(x), 1, 2, 0);
        x = Check.town("012345678905;ta,tb");
        nights(c, x, moved(2), 2, 3);
        c.dueAll("row", Check.row(x), 0, 1);
    }

    private static void heavyTakesTwo(Check c) {
        c.sentence("A HEAVY one takes two NIGHTS");
        TurningTown x = Check.town("012345678905;ea,hb");
        nights(c, x, moved(1), NONE, 1);
        c.due("stays down for", x.count(4), 1);
        nights(c, x, moved(1), 2, 1);
        c.due("stays down for", x.count(4), 0);
        nights(c, x, moved(1), 2, 3);
    }

    private static void chapelTakesThree(Check c) {
        c.sentence("a CHAPEL three");
        TurningTown x = Check.town("012345678905;ca,hb");
        nights(c, x, moved(1), NONE, 1);
        c.due("stays down for", x.count(4), 2);
        nights(c, x, moved(0), NONE, 1);
        c.due("stays down for", x.count(4), 1);
        nights(c, x, moved(1), 2, 1);
        c.due("stays down for", x.count(4), 0);
        nights(c, x, moved(1), 2, 3);
    }

    private static void nobodyMeanwhile(Check c) {
        c.sentence("nobody else is moved meanwhile");
        TurningTown x = Check.town("012345678905;ca,ta,sa");
        for (int night = 1; night <= 2; night++) {
            x.night();
            c.dueAll("plots behind night " + night, Check.plots(x), NONE, 1, 2);
            c.dueAll("row behind night " + night, Check.row(x), 0, 1, 2);
            c.due("front behind night " + night, x.count(2), 2);
            c.due("first behind night " + night, x.count(3), 0);
        }
        nights(c, x, moved(1), 3, 1, 2);
        nights(c, x, moved(2), 3, 4, 6);
    }

    private static void asIfMovedThen(Check c) {
        c.sentence("on the last one it is put up, as if it was moved then");
        TurningTown x = Check.town("012345678905;ca,hb");
        x.night();
        x.night();
        x.night();
        c.due("front", x.count(2), 2);
        c.dueAll("row", Check.row(x), 1, 0);
        // What is done meanwhile counts then.
        x = Check.town("012345678905;ea,hb,hc");
        x.night();
        x.swap(1, 2);
        x.build(1, 2);
        nights(c, x, moved(1), 3, 2, 1);
        nights(c, x, moved(2), 3, 4, 5);
        // One that is down stands nowhere, so that the plot it left is free for it, too.
        x = Check.town(SIX_SHOPS);
        Check.nights(x, 6);
        x.build(0, 4);
        nights(c, x, moved(1, 0, 1), 7, 9, 11, 1, 3, 6);
    }

    private static void withATwin(Check c) {
        c.sentence("One that is moved with a TWIN is put up at once, whatever it is");
        long[] second = {4, 4, 4, 5, 4};
        for (int kind = 0; kind < 5; kind++) {
            TurningTown x = Check.town("012345678905;ta,hb,hc");
            x.build(1, kind);
            nights(c, x, moved(2), 3, second[kind], 2);
            c.due("nobody is down", x.count(4), 0);
            c.due("all stand", x.count(1), 3);
            c.due("front", x.count(2), second[kind]);
            c.dueAll("row", Check.row(x), 2, 0, 1);
        }
    }

    private static void downHasNothing(Check c) {
        c.sentence("The WORTH that a house has had: behind each NIGHT, together (DOWN: 0)");
        TurningTown x = Check.town("987654321012;ca,hb");
        c.dueAll("at first", Check.had(x), 0, 0);
        x.night();
        c.dueAll("taken down", Check.had(x), 0, 8);
        x.night();
        c.dueAll("stays down", Check.had(x), 0, 16);
        x.night();
        c.dueAll("put up on 2", Check.had(x), 7, 24);
        x.night();
        c.dueAll("the other one on 3", Check.had(x), 14, 30);
        x.swap(0, 1);
        c.dueAll("a swap is no night", Check.had(x), 14, 30);
        x.snow();
        c.dueAll("snow on 3 and 2", Check.had(x), 20, 37);
    }

    // ---- promises 9 and 10

    private static void nightMoved(Check c) {
        c.sentence("9: how many were moved, or taken down");
        int[] first = {1, 1, 2, 1, 1};
        for (int kind = 0; kind < 5; kind++) {
            TurningTown x = Check.town("012345678905;ha,hb,hc,hd,he,hf");
            x.build(0, kind);
            c.due("night() with kind " + kind, x.night(), first[kind]);
            c.due("count(5)", x.count(5), 1);
        }
    }

    private static void nightStaysDown(Check c) {
        c.sentence("9: (0: one stays DOWN)");
        TurningTown x = Check.town("012345678905;ca,ca");
        for (int due : new int[] {1, 0, 1, 1, 0, 1, 1, 0, 1}) {
            c.due("night()", x.night(), due);
        }
        x = Check.town("012345678905;ea,ea");
        for (int due : new int[] {1, 1, 1, 1, 1, 1}) {
            c.due("night() with heavy ones", x.night(), due);
        }
    }

    private static void nightState(Check c) {
        c.sentence("9: STATE: no SQUARE");
        TurningTown x = new TurningTown();
        long before = x.digest();
        c.due("night()", x.night(), STATE);
        c.due("count(5)", x.count(5), 0);
        c.due("digest()", x.digest(), before);
        Check.write(x, "012345678905;ha,hb");
        c.due("night() with a page alone", x.night(), STATE);
        x.square();
        c.due("night() with a square", x.night(), 1);
    }

    /** No 512 calls come so far; but what is told of 999 NIGHTS is held to all the same. */
    private static TurningTown old(int nights) {
        TurningTown x = Check.town("012345678905;ha,cb");
        Check.nights(x, nights);
        return x;
    }

    private static void nightFull(Check c) {
        c.sentence("9: FULL: 999 were");
        TurningTown x = old(997);
        // Both take four nights: the 997th moves the house, the 998th takes the chapel down.
        c.due("night() as number 998", x.night(), 1);
        c.due("night() as number 999", x.night(), 0);
        long before = x.digest();
        c.due("night() as number 1000", x.night(), FULL);
        c.due("count(5)", x.count(5), 999);
        c.due("digest()", x.digest(), before);
        x.image();
        c.due("restore()", x.restore(), 999);
        c.due("night() behind that", x.night(), FULL);
        Check.write(x, "012345678905;ha,hb");
        x.square();
        c.due("night() of another square", x.night(), 1);
    }

    private static void snowMovesNobody(Check c) {
        c.sentence("10: nobody is moved, all as by a NIGHT else: how many NIGHTS there were");
        TurningTown x = Check.town("012345678905;ta,hb,hc");
        for (int night = 1; night <= 12; night++) {
            c.due("snow()", x.snow(), night);
            c.due("count(5)", x.count(5), night);
            c.dueAll("had", Check.had(x), 0, night, 2 * night);
        }
        c.dueAll("plots", Check.plots(x), 0, 1, 2);
        c.dueAll("row", Check.row(x), 0, 1, 2);
        c.due("front", x.count(2), 2);
        c.due("night()", x.night(), 2);
        c.due("snow() behind that", x.snow(), 14);
    }

    private static void snowWhileDown(Check c) {
        c.sentence("10: nobody is moved (one is DOWN)");
        TurningTown x = Check.town("555555555555;ca,hb");
        x.night();
        for (int night = 2; night <= 5; night++) {
            c.due("snow()", x.snow(), night);
            c.due("stays down for", x.count(4), 2);
            c.dueAll("had", Check.had(x), 0, 5 * night);
        }
        nights(c, x, moved(0), NONE, 1);
        c.due("snow()", x.snow(), 7);
        c.due("stays down for", x.count(4), 1);
        nights(c, x, moved(1), 2, 1);
    }

    private static void snowState(Check c) {
        c.sentence("10: STATE");
        TurningTown x = new TurningTown();
        c.due("snow()", x.snow(), STATE);
        c.due("count(5)", x.count(5), 0);
        Check.write(x, "012345678905;ha,hb");
        c.due("snow() with a page alone", x.snow(), STATE);
        x.square();
        c.due("snow() with a square", x.snow(), 1);
    }

    private static void snowFull(Check c) {
        c.sentence("10: FULL");
        TurningTown x = old(998);
        c.due("snow() as number 999", x.snow(), 999);
        long before = x.digest();
        c.due("snow() as number 1000", x.snow(), FULL);
        c.due("night() as number 1000", x.night(), FULL);
        c.due("count(5)", x.count(5), 999);
        c.due("digest()", x.digest(), before);
    }

    // ---- promises 11 and 12

    private static void buildUnknown(Check c) {
        c.sentence("11: UNKNOWN: house");
        TurningTown x = Check.town("012345678905;ha,hb,hc");
        for (int house : new int[] {MIN, -104, -1, 3, 4, 6, MAX}) {
            c.due("build(" + house + ", 0)", x.build(house, 0), UNKNOWN);
            c.due("build(" + house + ", 5)", x.build(house, 5), UNKNOWN);
            c.due("build(" + house + ", -1)", x.build(house, -1), UNKNOWN);
        }
        c.due("build(2, 1)", x.build(2, 1), 0);
        c.due("build(0, 0) without a square", new TurningTown().build(0, 0), UNKNOWN);
        c.due("build(0, 5) without a square", new TurningTown().build(0, 5), UNKNOWN);
    }

    private static void buildOutside(Check c) {
        c.sentence("11: OUTSIDE: kind (0 to 4)");
        TurningTown x = Check.town("012345678905;ca,hb,hc");
        for (int kind : new int[] {MIN, -104, -1, 5, 6, MAX}) {
            c.due("build(1, " + kind + ")", x.build(1, kind), OUTSIDE);
            c.due("house(1, 0)", x.house(1, 0), 0);
        }
        int before = 0;
        for (int kind : new int[] {4, 3, 2, 1, 0}) {
            c.due("build(1, " + kind + ")", x.build(1, kind), before);
            c.due("house(1, 0)", x.house(1, 0), kind);
            before = kind;
        }
        x.night();
        c.due("build(0, 5) while it is down", x.build(0, 5), OUTSIDE);
        c.due("build(0, -1) while it is down", x.build(0, -1), OUTSIDE);
    }

    private static void buildState(Check c) {
        c.sentence("11: STATE: it is DOWN");
        TurningTown x = Check.town("012345678905;ca,hb,hc");
        x.build(0, 1);
        x.build(0, 4);
        x.night();
        long before = x.digest();
        for (int kind = 0; kind < 5; kind++) {
            c.due("build(0, " + kind + ") while it is down", x.build(0, kind), STATE);
        }
        c.due("digest()", x.digest(), before);
        c.due("build(1, 3) while another is down", x.build(1, 3), 0);
        x.night();
        c.due("build(0, 0) while it stays down", x.build(0, 0), STATE);
        x.night();
        c.due("build(0, 0) once it is put up", x.build(0, 0), 4);
    }

    private static void buildSame(Check c) {
        c.sentence("11: of which KIND it was (it is the same)");
        TurningTown x = Check.town("012345678905;ha,ea,ta,sa,ca");
        long before = x.digest();
        for (int kind = 0; kind < 5; kind++) {
            c.due("build(" + kind + ", " + kind + ")", x.build(kind, kind), kind);
        }
        c.due("digest()", x.digest(), before);
    }

    private static void swapKeepsTheRow(Check c) {
        c.sentence("12: Two houses change PLOTS (and not places in THE ROW): the PLOT of a then");
        TurningTown x = Check.town("012345678905;ha,hb,hc");
        c.due("swap(0, 2)", x.swap(0, 2), 2);
        c.dueAll("plots", Check.plots(x), 2, 1, 0);
        c.dueAll("row", Check.row(x), 0, 1, 2);
        c.due("swap(2, 0)", x.swap(2, 0), 2);
        c.dueAll("plots", Check.plots(x), 0, 1, 2);
        c.due("swap(1, 2)", x.swap(1, 2), 2);
        c.due("swap(1, 2) again", x.swap(1, 2), 1);
        c.due("count(5)", x.count(5), 0);
        // The front is a plot: it stays where it is, whoever stands there.
        x.swap(0, 2);
        c.due("front", x.count(2), 2);
        nights(c, x, moved(1), 3, 1, 0);
    }

    private static void swapUnknown(Check c) {
        c.sentence("12: UNKNOWN: a, b");
        TurningTown x = Check.town("012345678905;ca,hb,hc");
        for (int house : new int[] {MIN, -104, -1, 3, 4, 6, MAX}) {
            c.due("swap(" + house + ", 1)", x.swap(house, 1), UNKNOWN);
            c.due("swap(1, " + house + ")", x.swap(1, house), UNKNOWN);
            c.due("swap(" + house + ", " + house + ")", x.swap(house, house), UNKNOWN);
        }
        x.night();
        c.due("swap(0, 3) while it is down", x.swap(0, 3), UNKNOWN);
        c.due("swap(3, 0) while it is down", x.swap(3, 0), UNKNOWN);
        c.due("swap(0, 1) without a square", new TurningTown().swap(0, 1), UNKNOWN);
    }

    private static void swapSame(Check c) {
        c.sentence("12: UNKNOWN: or they are the same");
        TurningTown x = Check.town("012345678905;ca,hb,hc");
        for (int house = 0; house < 3; house++) {
            c.due("swap(" + house + ", " + house + ")", x.swap(house, house), UNKNOWN);
        }
        c.dueAll("plots", Check.plots(x), 0, 1, 2);
        x.night();
        c.due("swap(0, 0) while it is down", x.swap(0, 0), UNKNOWN);
    }

    private static void swapState(Check c) {
        c.sentence("12: STATE: either is DOWN");
        TurningTown x = Check.town("012345678905;ca,hb,hc");
        x.night();
        long before = x.digest();
        c.due("swap(0, 1)", x.swap(0, 1), STATE);
        c.due("swap(1, 0)", x.swap(1, 0), STATE);
        c.due("swap(0, 2)", x.swap(0, 2), STATE);
        c.due("swap(2, 0)", x.swap(2, 0), STATE);
        c.due("digest()", x.digest(), before);
        c.due("swap(1, 2) while another is down", x.swap(1, 2), 2);
        c.dueAll("plots", Check.plots(x), NONE, 2, 1);
        Check.nights(x, 2);
        c.due("swap(0, 1) once it is put up", x.swap(0, 1), 2);
        c.dueAll("plots", Check.plots(x), 2, 3, 1);
    }
}
