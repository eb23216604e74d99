/** Edges of promises 20 to 25, of WISHES, what is SEEN, and YEARS: a test for each sentence that names one. */
public final class EdgeWishTest {
    private static final int NONE = TurningTown.NONE, UNKNOWN = TurningTown.UNKNOWN, OUTSIDE = TurningTown.OUTSIDE;
    private static final int STATE = TurningTown.STATE, FULL = TurningTown.FULL;
    private static final int MIN = Integer.MIN_VALUE, MAX = Integer.MAX_VALUE;
    private static final int[] NO_HOUSE = {MIN, -104, -2, -1, 3, 4, 6, MAX};
    private static final int[] NO_NIGHT = {MIN, -104, -1, 0, 41, 42, 400, MAX};
    private static final String TWO = "012345678905;ha,hb";
    private static final String THREE = "012345678905;ha,hb,hc";

    public static void main(String[] args) {
        Check c = new Check();
        fiveWishes(c);
        wishNights(c);
        wishUnknown(c);
        wishOutside(c);
        wishFull(c);
        giveNone(c);
        giveAll(c);
        orderWithoutWishes(c);
        orderAllTrue(c);
        orderFirstByNumbers(c);
        orderFromABeginning(c);
        orderNotSoMany(c);
        orderOutside(c);
        orderState(c);
        orderEightTimes(c);
        sixSeen(c);
        seeDown(c);
        seeNights(c);
        seeUnknown(c);
        seeOutside(c);
        seeFull(c);
        forgetNone(c);
        forgetAll(c);
        kindsAll(c);
        kindsNone(c);
        kindsOfAnother(c);
        lookLeast(c);
        lookLatest(c);
        lookNone(c);
        yearsNights(c);
        yearsSnow(c);
        yearsSeeds(c);
        yearsDraw(c);
        yearsOutside(c);
        yearsState(c);
        yearsAsTheyWouldBe(c);
        c.end();
    }

    // ---- promises 20 to 22

    private static void fiveWishes(Check c) {
        c.sentence("20: WISHES (5 at most)");
        TurningTown x = Check.town(THREE);
        for (int size = 1; size <= 5; size++) {
            c.due("wish() as number " + size, x.wish(0, 3, 1), size);
            c.due("count(8)", x.count(8), size);
        }
        c.due("wish() as number 6", x.wish(0, 3, 1), FULL);
        // Each of them counts, even the same one five times.
        c.due("order(0)", x.order(0), 5);
    }

    private static void wishNights(Check c) {
        c.sentence("20: behind some NIGHT (1 to 40), counted from a beginning");
        TurningTown x = Check.town(TWO);
        c.due("wish(1, 2, 1)", x.wish(1, 2, 1), 1);
        c.due("order(0)", x.order(0), 1);
        c.due("order(10)", x.order(10), 1);
        x.give();
        // Behind 40 nights the first one is on 4, the other one on 5.
        c.due("wish(1, 4, 40)", x.wish(1, 4, 40), 1);
        c.due("order(0)", x.order(0), 1);
        c.due("order(10)", x.order(10), 1);
        x.give();
        x.wish(1, 5, 40);
        c.due("order(0)", x.order(0), 1);
        c.due("order(10)", x.order(10), 0);
    }

    private static void wishUnknown(Check c) {
        c.sentence("20: UNKNOWN: house, plot");
        TurningTown x = Check.town(THREE);
        for (int house : NO_HOUSE) {
            c.due("wish(" + house + ", 0, 1)", x.wish(house, 0, 1), UNKNOWN);
            c.due("wish(" + house + ", 12, 0)", x.wish(house, 12, 0), UNKNOWN);
        }
        // A wish is for a plot: NONE is no such one.
        for (int plot : new int[] {MIN, -104, -2, NONE, 12, 13, MAX}) {
            c.due("wish(0, " + plot + ", 1)", x.wish(0, plot, 1), UNKNOWN);
            c.due("wish(0, " + plot + ", 41)", x.wish(0, plot, 41), UNKNOWN);
        }
        c.due("count(8)", x.count(8), 0);
        c.due("wish(2, 0, 1)", x.wish(2, 0, 1), 1);
        c.due("wish(0, 11, 1)", x.wish(0, 11, 1), 2);
        c.due("wish(0, 0, 1) without a square", new TurningTown().wish(0, 0, 1), UNKNOWN);
        c.due("wish(0, 0, 0) without a square", new TurningTown().wish(0, 0, 0), UNKNOWN);
    }

    private static void wishOutside(Check c) {
        c.sentence("20: OUTSIDE: night (1 to 40)");
        TurningTown x = Check.town(THREE);
        for (int night : NO_NIGHT) {
            c.due("wish(0, 0, " + night + ")", x.wish(0, 0, night), OUTSIDE);
        }
        c.due("count(8)", x.count(8), 0);
        c.due("wish(0, 0, 1)", x.wish(0, 0, 1), 1);
        c.due("wish(0, 0, 40)", x.wish(0, 0, 40), 2);
    }

    private static void wishFull(Check c) {
        c.sentence("20: FULL");
        TurningTown x = Check.town(THREE);
        for (int size = 1; size <= 5; size++) {
            x.wish(1, 3, 1);
        }
        c.due("wish(2, 3, 1)", x.wish(2, 3, 1), FULL);
        c.due("wish(2, 3, 0)", x.wish(2, 3, 0), OUTSIDE);
        c.due("wish(2, 12, 0)", x.wish(2, 12, 0), UNKNOWN);
        c.due("wish(3, 3, 1)", x.wish(3, 3, 1), UNKNOWN);
        c.due("count(8)", x.count(8), 5);
        c.due("order(0) by the five", x.order(0), 5);
        c.due("order(10) by the five", x.order(10), 1);
        x.give();
        c.due("wish(2, 3, 1) behind give()", x.wish(2, 3, 1), 1);
        c.due("order(10) behind give()", x.order(10), 2);
    }

    private static void giveNone(Check c) {
        c.sentence("21: No WISHES any more: how many there were (none)");
        c.due("give() without a square", new TurningTown().give(), 0);
        TurningTown x = Check.town(THREE);
        c.due("give()", x.give(), 0);
        x.wish(9, 0, 1);
        c.due("give() behind a refused wish", x.give(), 0);
    }

    private static void giveAll(Check c) {
        c.sentence("21: No WISHES any more: how many there were (all)");
        TurningTown x = Check.town(THREE);
        for (int size = 1; size <= 5; size++) {
            x.wish(2, 3, 1);
        }
        c.due("give()", x.give(), 5);
        c.due("give() again", x.give(), 0);
        c.due("count(8)", x.count(8), 0);
        c.due("order(0)", x.order(0), 0);
        c.due("order(10)", x.order(10), 0);
    }

    private static void orderWithoutWishes(Check c) {
        c.sentence("22: ORDER: how many come true (there are none)");
        TurningTown x = Check.town("012345678905;ha,hb,hc,hd,he,hf");
        c.due("order(0)", x.order(0), 0);
        for (int place = 0; place < 6; place++) {
            c.due("order(" + (10 + place) + ")", x.order(10 + place), place);
        }
    }

    private static void orderAllTrue(Check c) {
        c.sentence("22: ORDER: so that most WISHES come true: how many (all, some, none)");
        TurningTown x = Check.town("012345678905;ha,hb,hc,hd,he,hf");
        // The first one goes to 6 behind night 1, the others stay: only the last order by numbers has all five.
        x.wish(5, 6, 1);
        x.wish(4, 1, 1);
        x.wish(3, 2, 1);
        x.wish(2, 3, 1);
        x.wish(1, 4, 1);
        c.due("order(0)", x.order(0), 5);
        for (int place = 0; place < 6; place++) {
            c.due("order(" + (10 + place) + ")", x.order(10 + place), 5 - place);
        }
        x = Check.town(THREE);
        x.wish(1, 3, 1);
        x.wish(2, 3, 1);
        x.wish(2, 3, 2);
        c.due("order(0) of three", x.order(0), 2);
        c.due("order(10) of three", x.order(10), 2);
        x = Check.town(THREE);
        x.wish(1, 9, 1);
        c.due("order(0) of one that can't be", x.order(0), 0);
        c.due("order(10) of one that can't be", x.order(10), 0);
    }

    private static void orderFirstByNumbers(Check c) {
        c.sentence("22: ORDER: of like ones the first by numbers");
        TurningTown x = Check.town(THREE);
        // The last one stays on 2: 0 2 1 and 2 0 1 are like.
        x.wish(1, 2, 1);
        c.due("order(10)", x.order(10), 0);
        c.due("order(11)", x.order(11), 2);
        c.due("order(12)", x.order(12), 1);
        x.give();
        // The second one stays on 1: 1 0 2 and 2 0 1 are like.
        x.wish(0, 1, 1);
        c.due("order(10)", x.order(10), 1);
        c.due("order(11)", x.order(11), 0);
        c.due("order(12)", x.order(12), 2);
    }

    private static void orderFromABeginning(Check c) {
        c.sentence("22: ORDER: if it began anew");
        TurningTown x = Check.town("012345678905;ea,hb,hc");
        x.wish(2, 3, 1);
        x.swap(1, 2);
        x.night();
        c.due("stays down for", x.count(4), 1);
        long before = x.digest();
        c.due("order(0)", x.order(0), 1);
        c.due("order(10)", x.order(10), 2);
        // It is told only: all but how often it was done is as before.
        c.due("digest()", x.digest(), before + 2);
        x.give();
        x.build(2, 1);
        // A heavy one is put up behind night 2.
        x.wish(2, 3, 1);
        c.due("order(0) with another kind", x.order(0), 0);
        x.wish(2, 3, 2);
        c.due("order(0) with another kind", x.order(0), 1);
    }

    private static void orderNotSoMany(Check c) {
        c.sentence("22: NONE: there are not so many");
        TurningTown x = Check.town(TWO);
        int[] two = {0, 1, NONE, NONE, NONE, NONE};
        for (int place = 0; place < 6; place++) {
            c.due("order(" + (10 + place) + ") of two", x.order(10 + place), two[place]);
        }
        c.due("count(12)", x.count(12), 6);
        x = Check.town("012345678905;ha,hb,hc,hd,he");
        c.due("order(14) of five", x.order(14), 4);
        c.due("order(15) of five", x.order(15), NONE);
        x = Check.town("012345678905;ha,hb,hc,hd,he,hf");
        c.due("order(15) of six", x.order(15), 5);
    }

    private static void orderOutside(Check c) {
        c.sentence("22: OUTSIDE (what = 0, 10 to 15)");
        TurningTown x = Check.town(TWO);
        for (int what : new int[] {MIN, MIN + 9, MIN + 10, MIN + 15, -104, -1, 1, 2, 5, 8, 9, 16, 17, 100, MAX}) {
            c.due("order(" + what + ")", x.order(what), OUTSIDE);
            c.due("order(" + what + ") without a square", new TurningTown().order(what), OUTSIDE);
        }
        c.due("count(12)", x.count(12), 0);
    }

    private static void orderState(Check c) {
        c.sentence("22: STATE: no SQUARE");
        TurningTown x = new TurningTown();
        for (int what : new int[] {0, 10, 15}) {
            c.due("order(" + what + ")", x.order(what), STATE);
        }
        c.due("count(12)", x.count(12), 0);
        Check.write(x, TWO);
        c.due("order(0) with a page alone", x.order(0), STATE);
        x.square();
        for (int times = 1; times <= 8; times++) {
            // What was refused was not done.
            c.due("order(0) as number " + times, x.order(0), 0);
        }
    }

    private static void orderEightTimes(Check c) {
        c.sentence("22: STATE: or order() was done 8 times");
        TurningTown x = Check.town(TWO);
        for (int times = 1; times <= 8; times++) {
            c.due("order(1)", x.order(1), OUTSIDE);
            c.due("order(11) as number " + times, x.order(11), 1);
            c.due("count(12)", x.count(12), times);
        }
        for (int what : new int[] {0, 10, 11, 12, 15}) {
            c.due("order(" + what + ") as number 9", x.order(what), STATE);
        }
        c.due("order(16) as number 9", x.order(16), OUTSIDE);
        c.due("count(12)", x.count(12), 8);
        c.due("another object's order(0)", Check.town(TWO).order(0), 0);
    }

    // ---- promises 23 and 24, and what house() tells for 5 and 6

    private static void sixSeen(Check c) {
        c.sentence("23: SEEN (6 at most)");
        TurningTown x = Check.town(THREE);
        for (int size = 1; size <= 6; size++) {
            c.due("see() as number " + size, x.see(size % 3, size, size), size);
            c.due("count(9)", x.count(9), size);
        }
        c.due("see() as number 7", x.see(0, 0, 1), FULL);
        c.due("count(9)", x.count(9), 6);
    }

    private static void seeDown(Check c) {
        c.sentence("23: on a PLOT (DOWN: none)");
        TurningTown x = Check.town(TWO);
        c.due("see(0, NONE, 1)", x.see(0, NONE, 1), 1);
        c.due("house(0, 5)", x.house(0, 5), 2 | 16);
        c.due("see(0, NONE, 2)", x.see(0, NONE, 2), 2);
        c.due("house(0, 5)", x.house(0, 5), 16);
        c.due("see(0, NONE, 3)", x.see(0, NONE, 3), 3);
        c.due("house(0, 5)", x.house(0, 5), 0);
    }

    /** As the kinds that it could be built as: on which plot behind the night. */
    private static int kindsBuilt(TurningTown x, int house, int plot, int night) {
        int was = x.house(house, 0);
        int bits = 0;
        for (int kind = 0; kind < 5; kind++) {
            x.build(house, kind);
            bits |= x.where(house, night) == plot ? 1 << kind : 0;
        }
        x.build(house, was);
        return bits;
    }

    private static void seeNights(Check c) {
        c.sentence("23: behind so many NIGHTS from now (1 to 40)");
        for (int night : new int[] {1, 2, 39, 40}) {
            TurningTown x = Check.town(TWO);
            for (int plot = NONE; plot < 12; plot++) {
                c.due("see(0, " + plot + ", " + night + ")", x.see(0, plot, night), 1);
                c.due("house(0, 5)", x.house(0, 5), kindsBuilt(x, 0, plot, night));
                x.forget();
            }
        }
        // From now: behind a night that has gone the same is told of the night to come.
        TurningTown x = Check.town(TWO);
        x.see(0, 2, 1);
        c.due("house(0, 5)", x.house(0, 5), 1 | 4);
        x.night();
        c.due("house(0, 5) behind a night", x.house(0, 5), 31);
    }

    private static void seeUnknown(Check c) {
        c.sentence("23: UNKNOWN: house, plot (0 to 11; NONE)");
        TurningTown x = Check.town(THREE);
        for (int house : NO_HOUSE) {
            c.due("see(" + house + ", 0, 1)", x.see(house, 0, 1), UNKNOWN);
            c.due("see(" + house + ", NONE, 1)", x.see(house, NONE, 1), UNKNOWN);
            c.due("see(" + house + ", 12, 0)", x.see(house, 12, 0), UNKNOWN);
        }
        for (int plot : new int[] {MIN, -104, -3, -2, 12, 13, MAX}) {
            c.due("see(0, " + plot + ", 1)", x.see(0, plot, 1), UNKNOWN);
            c.due("see(0, " + plot + ", 41)", x.see(0, plot, 41), UNKNOWN);
        }
        c.due("count(9)", x.count(9), 0);
        c.due("see(2, NONE, 1)", x.see(2, NONE, 1), 1);
        c.due("see(2, 0, 1)", x.see(2, 0, 1), 2);
        c.due("see(2, 11, 1)", x.see(2, 11, 1), 3);
        c.due("see(0, 0, 1) without a square", new TurningTown().see(0, 0, 1), UNKNOWN);
        c.due("see(0, 0, 0) without a square", new TurningTown().see(0, 0, 0), UNKNOWN);
    }

    private static void seeOutside(Check c) {
        c.sentence("23: OUTSIDE: night (1 to 40)");
        TurningTown x = Check.town(THREE);
        for (int night : NO_NIGHT) {
            c.due("see(0, 0, " + night + ")", x.see(0, 0, night), OUTSIDE);
            c.due("see(0, NONE, " + night + ")", x.see(0, NONE, night), OUTSIDE);
        }
        c.due("count(9)", x.count(9), 0);
    }

    private static void seeFull(Check c) {
        c.sentence("23: FULL");
        TurningTown x = Check.town(TWO);
        for (int size = 1; size <= 6; size++) {
            x.see(0, 2, 1);
        }
        c.due("see(0, NONE, 1)", x.see(0, NONE, 1), FULL);
        c.due("see(0, NONE, 0)", x.see(0, NONE, 0), OUTSIDE);
        c.due("see(0, -2, 0)", x.see(0, -2, 0), UNKNOWN);
        c.due("see(2, 0, 1)", x.see(2, 0, 1), UNKNOWN);
        c.due("house(0, 5) by the six", x.house(0, 5), 1 | 4);
        c.due("count(9)", x.count(9), 6);
        x.forget();
        c.due("see(0, NONE, 1) behind forget()", x.see(0, NONE, 1), 1);
        c.due("house(0, 5) behind forget()", x.house(0, 5), 2 | 16);
    }

    private static void forgetNone(Check c) {
        c.sentence("24: Nothing is SEEN any more: how much was (nothing)");
        c.due("forget() without a square", new TurningTown().forget(), 0);
        TurningTown x = Check.town(TWO);
        c.due("forget()", x.forget(), 0);
        x.see(0, 12, 1);
        c.due("forget() behind a refused one", x.forget(), 0);
    }

    private static void forgetAll(Check c) {
        c.sentence("24: Nothing is SEEN any more: how much was (all)");
        TurningTown x = Check.town(TWO);
        for (int size = 1; size <= 6; size++) {
            x.see(0, 11, 1);
        }
        c.due("house(0, 5)", x.house(0, 5), 0);
        c.due("forget()", x.forget(), 6);
        c.due("forget() again", x.forget(), 0);
        c.due("count(9)", x.count(9), 0);
        c.due("house(0, 5) behind that", x.house(0, 5), 31);
    }

    private static void kindsAll(Check c) {
        c.sentence("6: KINDS (0 to 4) it can be of (all)");
        for (int houses = 2; houses <= 6; houses++) {
            TurningTown x = Check.town("304159265358;td,hk,ea,sg,cb,he".substring(0, 12 + 3 * houses));
            for (int house = 0; house < houses; house++) {
                c.due("house(" + house + ", 5)", x.house(house, 5), 31);
            }
        }
        // As bits: each kind by itself.
        TurningTown x = Check.town("012345678905;ha,hb");
        int[][] seen = {{2, 1, 2, 2}, {NONE, 1, 2, 2}, {2, 1, 4, 2}, {3, 1, 3, 2}, {NONE, 1, NONE, 2}};
        for (int kind = 0; kind < 5; kind++) {
            x.see(0, seen[kind][0], seen[kind][1]);
            x.see(0, seen[kind][2], seen[kind][3]);
            c.due("house(0, 5) of kind " + kind, x.house(0, 5), 1 << kind);
            x.forget();
        }
    }

    private static void kindsNone(Check c) {
        c.sentence("6: KINDS it can be of, so that all that is SEEN of it is so (none)");
        TurningTown x = Check.town(TWO);
        x.see(0, 2, 1);
        x.see(0, 3, 1);
        c.due("house(0, 5) of what is seen twice in a night", x.house(0, 5), 0);
        x.forget();
        x.see(0, 0, 1);
        // It is moved behind night 1, whatever it is.
        c.due("house(0, 5) of one that stayed", x.house(0, 5), 0);
        c.due("its own kind is as it was", x.house(0, 0), 0);
    }

    private static void kindsOfAnother(Check c) {
        c.sentence("6: KINDS: all that is SEEN of it (of another one nothing)");
        TurningTown x = Check.town(TWO);
        x.see(1, 11, 1);
        c.due("house(1, 5)", x.house(1, 5), 0);
        c.due("house(0, 5)", x.house(0, 5), 31);
        c.due("house(0, 6)", x.house(0, 6), 4);
    }

    private static void lookLeast(Check c) {
        c.sentence("6: LOOK: of like ones the least");
        TurningTown x = Check.town(TWO);
        x.see(0, 3, 1);
        // Only a shop is left: one is left behind whatever night.
        c.due("house(0, 5)", x.house(0, 5), 8);
        c.due("house(0, 6)", x.house(0, 6), 1);
        x.forget();
        x.see(0, NONE, 1);
        // Heavy or a chapel: behind night 1 both are left, behind night 2 one is.
        c.due("house(0, 6)", x.house(0, 6), 2);
        x.forget();
        // House on 2, 2, 4, 4; heavy down, 2, 2, down; twin on 2, 4, 6, 8; shop on 3, 3, 6, 6; chapel down, down, 2, 2.
        c.due("house(0, 6)", x.house(0, 6), 4);
        // House 1 of a twin is moved with it whatever it is, so that night 1 tells shops alone.
        x = Check.town("012345678905;ta,hb");
        c.due("house(1, 6)", x.house(1, 6), leastNight(x, 1));
    }

    /** LOOK, by building it as each kind: the least night behind which the fewest are on one plot at worst. */
    private static int leastNight(TurningTown x, int house) {
        int best = NONE;
        int fewest = 6;
        int was = x.house(house, 0);
        int[][] at = new int[5][41];
        for (int kind = 0; kind < 5; kind++) {
            x.build(house, kind);
            for (int night = 1; night <= 40; night++) {
                at[kind][night] = x.where(house, night);
            }
        }
        x.build(house, was);
        for (int night = 1; night <= 40; night++) {
            int worst = 0;
            for (int kind = 0; kind < 5; kind++) {
                int alike = 0;
                for (int other = 0; other < 5; other++) {
                    alike += at[other][night] == at[kind][night] ? 1 : 0;
                }
                worst = Math.max(worst, alike);
            }
            if (worst < fewest) {
                fewest = worst;
                best = night;
            }
        }
        return best;
    }

    private static void lookLatest(Check c) {
        c.sentence("6: LOOK: behind which NIGHT from now (1 to 40)");
        TurningTown x = Check.town("012345678905;ca,sb,hc,cd");
        c.due("house(1, 6)", x.house(1, 6), 40);
        c.due("house(1, 6), by building it", leastNight(x, 1), 40);
        x = Check.town("304159265358;td,hk,ea,sg,cb,he");
        c.due("house(0, 6)", x.house(0, 6), 1);
    }

    private static void lookNone(Check c) {
        c.sentence("6: LOOK: none, if there are none");
        TurningTown x = Check.town(TWO);
        x.see(0, 0, 1);
        c.due("house(0, 5)", x.house(0, 5), 0);
        c.due("house(0, 6)", x.house(0, 6), NONE);
        x.forget();
        c.due("house(0, 6) behind forget()", x.house(0, 6), 4);
    }

    // ---- promise 25

    private static void yearsNights(Check c) {
        c.sentence("25: so many NIGHTS (1 to 60)");
        TurningTown x = Check.town("999999999999;ha,hb");
        long seed = 5;
        int dry = 0;
        for (int nights = 1; nights <= 60; nights++) {
            seed = (seed * 1103515245L + 12345L) % 2147483648L;
            dry += seed / 65536L % 4L == 0 ? 0 : 1;
            c.due("years(" + nights + ", 5, 0)", x.years(nights, 5, 0), dry);
            c.due("years(" + nights + ", 5, 1)", x.years(nights, 5, 1), 18L * nights);
            c.due("years(" + nights + ", 5, 2)", x.years(nights, 5, 2), seed);
        }
    }

    private static void yearsSnow(Check c) {
        c.sentence("25: on each it snows, and nobody is moved, if a DRAW of 4 is 0");
        TurningTown x = Check.town("100000000000;ha,hb");
        // By seed 0 it snows on the first night: house 0 has stayed on plot 0.
        c.due("years(1, 0, 0)", x.years(1, 0, 0), 0);
        c.due("years(1, 0, 1)", x.years(1, 0, 1), 1);
        // By seed 1 it doesn't.
        c.due("years(1, 1, 0)", x.years(1, 1, 0), 1);
        c.due("years(1, 1, 1)", x.years(1, 1, 1), 0);
        // One that is down stays down for longer.
        x = Check.town("999999999999;ea,hb");
        x.night();
        c.due("years(1, 0, 1) while one is down", x.years(1, 0, 1), 9);
        c.due("years(1, 1, 1) while one is down", x.years(1, 1, 1), 18);
    }

    private static void yearsSeeds(Check c) {
        c.sentence("25: 1103515245 times it and 12345, its rest by 2 to the 31");
        TurningTown x = Check.town(TWO);
        c.due("years(1, 0, 2)", x.years(1, 0, 2), 12345);
        c.due("years(1, 1, 2)", x.years(1, 1, 2), 1103527590);
        c.due("years(1, 2, 2)", x.years(1, 2, 2), (2 * 1103515245L + 12345) % 2147483648L);
        c.due("years(1, MAX, 2)", x.years(1, MAX, 2), 2147483648L - 1103515245L + 12345);
        c.due("years(1, MAX - 1, 2)", x.years(1, MAX - 1, 2), 2 * 2147483648L - 2 * 1103515245L + 12345);
        for (int nights = 1; nights <= 60; nights++) {
            c.due("a seed is none below 0", x.years(nights, MAX, 2) >= 0 ? 1 : 0, 1);
        }
    }

    private static void yearsDraw(Check c) {
        c.sentence("25: then that by 65536 (rounded down), its rest");
        TurningTown x = Check.town(TWO);
        for (int seed = 0; seed < 100; seed++) {
            long next = (seed * 1103515245L + 12345L) % 2147483648L;
            c.due("years(1, " + seed + ", 0)", x.years(1, seed, 0), (next >> 16 & 3) == 0 ? 0 : 1);
        }
    }

    private static void yearsOutside(Check c) {
        c.sentence("25: OUTSIDE: nights (1 to 60), seed (0 at least), what");
        TurningTown x = Check.town(TWO);
        TurningTown none = new TurningTown();
        for (int nights : new int[] {MIN, -104, -1, 0, 61, 62, 400, MAX}) {
            c.due("years(" + nights + ", 0, 0)", x.years(nights, 0, 0), OUTSIDE);
            c.due("years(" + nights + ", 0, 0) without a square", none.years(nights, 0, 0), OUTSIDE);
        }
        for (int seed : new int[] {MIN, -65536, -104, -2, -1}) {
            c.due("years(1, " + seed + ", 0)", x.years(1, seed, 0), OUTSIDE);
            c.due("years(1, " + seed + ", 0) without a square", none.years(1, seed, 0), OUTSIDE);
        }
        for (int what : new int[] {MIN, -104, -1, 3, 4, MAX}) {
            c.due("years(1, 0, " + what + ")", x.years(1, 0, what), OUTSIDE);
            c.due("years(1, 0, " + what + ") without a square", none.years(1, 0, what), OUTSIDE);
        }
        c.due("years(60, MAX, 2)", x.years(60, MAX, 2) >= 0 ? 1 : 0, 1);
    }

    private static void yearsState(Check c) {
        c.sentence("25: STATE: no SQUARE");
        TurningTown x = new TurningTown();
        for (int what = 0; what <= 2; what++) {
            c.due("years(1, 0, " + what + ")", x.years(1, 0, what), STATE);
            c.due("years(60, MAX, " + what + ")", x.years(60, MAX, what), STATE);
        }
        Check.write(x, TWO);
        c.due("years(1, 0, 2) with a page alone", x.years(1, 0, 2), STATE);
        x.square();
        c.due("years(1, 0, 2) with a square", x.years(1, 0, 2), 12345);
    }

    private static void yearsAsTheyWouldBe(Check c) {
        c.sentence("25: as they would be (nothing changes)");
        TurningTown x = Check.town("304159265358;cd,hk,ea,sg,tb,he");
        Check.nights(x, 2);
        long before = x.digest();
        int worth = x.years(60, 7, 1);
        x.years(60, 7, 0);
        x.years(60, 7, 2);
        c.due("digest()", x.digest(), before);
        c.due("count(5)", x.count(5), 2);
        // The same nights, done.
        int sum = -x.count(7);
        long seed = 7;
        for (int night = 0; night < 60; night++) {
            seed = (seed * 1103515245L + 12345L) % 2147483648L;
            if (seed / 65536L % 4L == 0) {
                x.snow();
            } else {
                x.night();
            }
        }
        c.due("years(60, 7, 1)", worth, sum + x.count(7));
    }
}
