/** Edges of promises 1 to 8, and of the terms of a square: a test for each sentence that names one. */
public final class EdgeSquareTest {
    private static final int NONE = TurningTown.NONE, UNKNOWN = TurningTown.UNKNOWN, OUTSIDE = TurningTown.OUTSIDE;
    private static final int STATE = TurningTown.STATE, FULL = TurningTown.FULL;
    private static final int MIN = Integer.MIN_VALUE, MAX = Integer.MAX_VALUE;
    private static final String DIGITS = "0123456789";
    private static final String SIX = "304159265358;td,hk,ea,sg,cb,he";

    public static void main(String[] args) {
        Check c = new Check();
        plots(c);
        ring(c);
        twelveDigits(c);
        worths(c);
        mark(c);
        twoToSix(c);
        between(c);
        kindLetters(c);
        likeLetters(c);
        atFirst(c);
        asItBegins(c);
        allAreHouses(c);
        newObject(c);
        letterOutside(c);
        letterFull(c);
        blankEmpty(c);
        blankFull(c);
        faultEmpty(c);
        faultNone(c);
        faultFirst(c);
        faultBeyond(c);
        squareState(c);
        squareStateOnAnother(c);
        squareEmptiesThePage(c);
        squareAnotherIsGone(c);
        houseUnknown(c);
        houseOutside(c);
        houseDown(c);
        houseTradeDown(c);
        houseLookNone(c);
        asNone(c);
        asUnknown(c);
        asOutside(c);
        plotNone(c);
        plotUnknown(c);
        plotUnknownWithoutASquare(c);
        plotOutside(c);
        c.end();
    }

    private static TurningTown page(String text) {
        TurningTown x = new TurningTown();
        Check.write(x, text);
        return x;
    }

    /** With this beginning of a square ahead of it, only these letters have no fault there. */
    private static void onlyThese(Check c, String ahead, String letters) {
        for (int code = 1; code <= 126; code++) {
            TurningTown x = page(ahead);
            x.letter(code);
            boolean fits = letters.indexOf(code) >= 0;
            c.due("fault() of " + ahead + " and " + code, x.fault(), ahead.length() + (fits ? 1 : 0));
        }
    }

    private static void square(Check c, String text, int due) {
        c.due("square() of " + text, page(text).square(), due);
    }

    // ---- terms

    private static void plots(Check c) {
        c.sentence("12 PLOTS (0 to 11)");
        TurningTown x = Check.town("123456789012;ha,hb");
        c.due("plot(0, 0)", x.plot(0, 0), 1);
        c.due("plot(11, 0)", x.plot(11, 0), 2);
        c.due("plot(-1, 0)", x.plot(-1, 0), UNKNOWN);
        c.due("plot(12, 0)", x.plot(12, 0), UNKNOWN);
    }

    private static void ring(Check c) {
        c.sentence("in a ring (0 behind 11)");
        TurningTown x = Check.town("012345678905;ha,hb");
        Check.nights(x, 10);
        c.dueAll("plots", Check.plots(x), 10, 11);
        c.due("front", x.count(2), 11);
        x.night();
        c.dueAll("plots", Check.plots(x), 0, 11);
        c.due("front", x.count(2), 0);
        x.night();
        c.dueAll("plots", Check.plots(x), 0, 1);
    }

    private static void twelveDigits(Check c) {
        c.sentence("twelve digits");
        for (int digits = 0; digits < 12; digits++) {
            onlyThese(c, "304159265358".substring(0, digits), DIGITS);
            square(c, "304159265358".substring(0, digits) + ";ha,hb", STATE);
        }
        square(c, "304159265358;ha,hb", 2);
        square(c, "3041592653580;ha,hb", STATE);
    }

    private static void worths(Check c) {
        c.sentence("the WORTH of each (0 to 9)");
        for (int plot = 0; plot < 12; plot++) {
            StringBuilder text = new StringBuilder("000000000000;ha,hb");
            text.setCharAt(plot, '9');
            TurningTown x = Check.town(text.toString());
            for (int other = 0; other < 12; other++) {
                c.due("plot(" + other + ", 0) of " + text, x.plot(other, 0), other == plot ? 9 : 0);
            }
            text.setCharAt(plot, '/');
            c.due("fault() of " + text, page(text.toString()).fault(), plot);
            text.setCharAt(plot, ':');
            c.due("fault() of " + text, page(text.toString()).fault(), plot);
        }
    }

    private static void mark(Check c) {
        c.sentence("\";\"");
        onlyThese(c, "304159265358", ";");
        square(c, "304159265358ha,hb", STATE);
        square(c, "304159265358;;ha,hb", STATE);
    }

    private static void twoToSix(Check c) {
        c.sentence("two to six HOUSES");
        square(c, "304159265358;", STATE);
        square(c, "304159265358;ha", STATE);
        square(c, "304159265358;ha,hb", 2);
        square(c, "304159265358;ha,hb,hc", 3);
        square(c, "304159265358;ha,hb,hc,hd", 4);
        square(c, "304159265358;ha,hb,hc,hd,he", 5);
        square(c, "304159265358;ha,hb,hc,hd,he,hf", 6);
        // The page has no room for a seventh one whole, but its beginning is a fault already.
        square(c, "304159265358;ha,hb,hc,hd,he,hf,", STATE);
        square(c, "304159265358;ha,hb,hc,hd,he,hf,h", STATE);
        onlyThese(c, "304159265358;ha,hb,hc,hd,he,hf", "");
        c.due("fault() of six and a beginning", page("304159265358;ha,hb,hc,hd,he,hf,h").fault(), 30);
    }

    private static void between(Check c) {
        c.sentence("with \",\" between");
        for (int houses = 1; houses < 6; houses++) {
            String ahead = SIX.substring(0, 12 + 3 * houses);
            onlyThese(c, ahead, ",");
            square(c, ahead + ",", STATE);
        }
        square(c, "304159265358;,ha,hb", STATE);
        square(c, "304159265358;hahb", STATE);
        square(c, "304159265358;ha,,hb", STATE);
    }

    private static void kindLetters(Check c) {
        c.sentence("each a letter, the KIND: 0 HOUSE \"h\", 1 HEAVY \"e\", 2 TWIN \"t\", 3 SHOP \"s\", 4 CHAPEL \"c\"");
        for (int house = 0; house < 6; house++) {
            onlyThese(c, SIX.substring(0, 13 + 3 * house), "hetsc");
        }
        TurningTown x = Check.town("304159265358;ha,ea,ta,sa,ca");
        for (int kind = 0; kind < 5; kind++) {
            c.due("house(" + kind + ", 0)", x.house(kind, 0), kind);
        }
    }

    private static void likeLetters(Check c) {
        c.sentence("a letter \"a\" to \"l\", the PLOT that it LIKES (0 to 11)");
        for (int house = 0; house < 6; house++) {
            onlyThese(c, SIX.substring(0, 14 + 3 * house), "abcdefghijkl");
        }
        TurningTown x = Check.town("304159265358;ha,hl");
        c.due("house(0, 1)", x.house(0, 1), 0);
        c.due("house(1, 1)", x.house(1, 1), 11);
    }

    private static void atFirst(Check c) {
        c.sentence("At first there is none");
        TurningTown x = page(SIX);
        c.due("count(0) ahead of square()", x.count(0), 0);
        c.due("house(0, 0) ahead of square()", x.house(0, 0), UNKNOWN);
        c.due("night() ahead of square()", x.night(), STATE);
        x.square();
        c.due("night() behind it", x.night(), 2);
    }

    private static void asItBegins(Check c) {
        c.sentence("then HOUSE h stands on PLOT h, the FRONT is the PLOT of the last one; THE ROW is 0, 1, and so on");
        for (int houses = 2; houses <= 6; houses++) {
            TurningTown x = Check.town(SIX.substring(0, 12 + 3 * houses));
            for (int house = 0; house < houses; house++) {
                c.due("house(" + house + ", 2)", x.house(house, 2), house);
                c.due("house(" + house + ", 3)", x.house(house, 3), house);
                c.due("plot(" + house + ", 1)", x.plot(house, 1), house);
            }
            for (int plot = houses; plot < 12; plot++) {
                c.due("plot(" + plot + ", 1)", x.plot(plot, 1), NONE);
            }
            c.due("front of " + houses, x.count(2), houses - 1);
            c.due("first of " + houses, x.count(3), 0);
        }
    }

    private static void allAreHouses(Check c) {
        c.sentence("All are HOUSES; a CHAPEL is HEAVY, too");
        TurningTown x = Check.town("304159265358;ha,ea,ta,sa,ca");
        for (int house = 0; house < 5; house++) {
            c.due("as(" + house + ", 0)", x.as(house, 0), house);
            c.due("as(" + house + ", 1)", x.as(house, 1), house == 1 || house == 4 ? house : NONE);
        }
        c.due("as(1, 4): a heavy one is no chapel", x.as(1, 4), NONE);
    }

    // ---- promises 1 to 5

    private static void newObject(Check c) {
        c.sentence("1: No SQUARE");
        TurningTown x = new TurningTown();
        for (int what = 0; what <= 12; what++) {
            c.due("count(" + what + ")", x.count(what), 0);
        }
        c.due("again()", x.again(), STATE);
        c.due("rings()", x.rings(), STATE);
        c.due("restore()", x.restore(), STATE);
    }

    private static void letterOutside(Check c) {
        c.sentence("2: OUTSIDE: code (1 to 126)");
        TurningTown x = new TurningTown();
        int[] wrong = {MIN, MIN + 1, -104, -1, 0, 127, 128, 255, 256 + '0', 65536 + '0', MAX - 1, MAX};
        for (int code : wrong) {
            c.due("letter(" + code + ")", x.letter(code), OUTSIDE);
            c.due("count(10)", x.count(10), 0);
        }
        for (int code = 1; code <= 126; code++) {
            c.due("letter(" + code + ")", x.letter(code), 1);
            x.blank();
        }
    }

    private static void letterFull(Check c) {
        c.sentence("2: FULL: above 32");
        TurningTown x = new TurningTown();
        for (int size = 1; size <= 32; size++) {
            c.due("letter() as number " + size, x.letter('0' + size % 10), size);
        }
        long before = x.digest();
        c.due("letter() as number 33", x.letter('0'), FULL);
        c.due("letter() as number 33 again", x.letter('1'), FULL);
        c.due("count(10)", x.count(10), 32);
        c.due("digest()", x.digest(), before);
        c.due("letter(0) as number 33", x.letter(0), OUTSIDE);
        c.due("letter(127) as number 33", x.letter(127), OUTSIDE);
        x.blank();
        c.due("letter() behind blank()", x.letter('0'), 1);
    }

    private static void blankEmpty(Check c) {
        c.sentence("3: THE PAGE is empty: how many letters it had (none)");
        TurningTown x = new TurningTown();
        c.due("blank()", x.blank(), 0);
        x.letter('0');
        c.due("blank() of one", x.blank(), 1);
        c.due("blank() again", x.blank(), 0);
        c.due("fault()", x.fault(), 0);
        x = Check.town(SIX);
        c.due("blank() behind square()", x.blank(), 0);
        c.due("the square stays", x.count(0), 6);
    }

    private static void blankFull(Check c) {
        c.sentence("3: THE PAGE is empty: how many letters it had (all)");
        TurningTown x = page("00000000000000000000000000000000");
        c.due("blank()", x.blank(), 32);
        c.due("count(10)", x.count(10), 0);
        Check.write(x, SIX);
        c.due("square() of what is written anew", x.square(), 6);
    }

    private static void faultEmpty(Check c) {
        c.sentence("4: The place (from 0) of the first letter (the very first one)");
        c.due("fault() of ;", page(";").fault(), 0);
        c.due("fault() of h0", page("h0").fault(), 0);
        c.due("fault() of code 1", page("\1").fault(), 0);
        c.due("fault() of code 126", page("~").fault(), 0);
    }

    private static void faultNone(Check c) {
        c.sentence("4: how many letters it has, if there is none");
        for (int size = 0; size <= SIX.length(); size++) {
            TurningTown x = page(SIX.substring(0, size));
            c.due("fault() of " + size + " letters", x.fault(), size);
            c.due("count(10) behind that", x.count(10), size);
        }
    }

    private static void faultFirst(Check c) {
        c.sentence("4: the first letter that no SQUARE has there, behind those ahead of it");
        for (int place = 0; place < SIX.length(); place++) {
            TurningTown x = page(SIX.substring(0, place) + "~" + SIX.substring(place + 1) + "~");
            c.due("fault() with one at " + place, x.fault(), place);
        }
        // With 31 letters before it a fault can be the 32nd letter only where another is ahead of it.
        c.due("fault() of a full page", page(SIX + ",h").fault(), 30);
    }

    private static void faultBeyond(Check c) {
        c.sentence("4: a letter behind the sixth house is one that no SQUARE has");
        for (int code = 1; code <= 126; code++) {
            TurningTown x = page(SIX);
            x.letter(code);
            c.due("fault() with " + code + " behind six", x.fault(), 30);
            c.due("square() with " + code + " behind six", x.square(), STATE);
        }
    }

    private static void squareState(Check c) {
        c.sentence("5: STATE: it is none");
        for (int size = 0; size <= SIX.length(); size++) {
            TurningTown x = page(SIX.substring(0, size));
            boolean isOne = size >= 18 && size % 3 == 0;
            c.due("square() of " + size + " letters", x.square(), isOne ? size / 3 - 4 : STATE);
            c.due("count(10) behind that", x.count(10), isOne ? 0 : size);
            c.due("count(11) behind that", x.count(11), isOne ? 1 : 0);
        }
        for (int place = 0; place < SIX.length(); place++) {
            square(c, SIX.substring(0, place) + "~" + SIX.substring(place + 1), STATE);
        }
    }

    private static void squareStateOnAnother(Check c) {
        c.sentence("5: STATE: the SQUARE that there is stays, and THE PAGE too");
        TurningTown x = Check.town(SIX);
        Check.nights(x, 2);
        x.wish(1, 2, 3);
        x.see(1, 2, 3);
        x.image();
        c.due("square() of an empty page", x.square(), STATE);
        Check.write(x, "304159265358;ha");
        long before = x.digest();
        c.due("square()", x.square(), STATE);
        c.due("digest()", x.digest(), before);
        c.due("restore()", x.restore(), 2);
        Check.write(x, ",hb");
        c.due("square() of the page written on", x.square(), 2);
    }

    private static void squareEmptiesThePage(Check c) {
        c.sentence("5: THE PAGE is empty then");
        TurningTown x = Check.town(SIX);
        c.due("count(10)", x.count(10), 0);
        c.due("fault()", x.fault(), 0);
        c.due("square() again", x.square(), STATE);
        c.due("letter()", x.letter('0'), 1);
    }

    private static void squareAnotherIsGone(Check c) {
        c.sentence("5: another one is gone, with all that was");
        TurningTown x = Check.town("555555555555;td,hk,ea,sg,cb,he");
        Check.nights(x, 2);
        x.wish(1, 2, 3);
        x.see(0, 1, 1);
        x.image();
        x.build(0, 3);
        Check.write(x, "012345678901;ha,eb");
        TurningTown fresh = Check.town("012345678901;ha,eb");
        x.square();
        for (int what = 0; what <= 10; what++) {
            c.due("count(" + what + ")", x.count(what), fresh.count(what));
        }
        for (int house = 0; house < 3; house++) {
            for (int what = 0; what <= 7; what++) {
                c.due("house(" + house + ", " + what + ")", x.house(house, what), fresh.house(house, what));
            }
            c.due("where(" + house + ", 5)", x.where(house, 5), fresh.where(house, 5));
        }
        for (int plot = 0; plot < 12; plot++) {
            for (int what = 0; what <= 2; what++) {
                c.due("plot(" + plot + ", " + what + ")", x.plot(plot, what), fresh.plot(plot, what));
            }
        }
        c.due("again()", x.again(), fresh.again());
        c.due("order(0)", x.order(0), 0);
        c.due("restore()", x.restore(), STATE);
        // Only how often a SQUARE was read goes on.
        c.due("count(11)", x.count(11), 2);
        Check.write(x, SIX);
        c.due("square() of more houses", x.square(), 6);
        c.dueAll("plots of more houses", Check.plots(x), 0, 1, 2, 3, 4, 5);
        c.dueAll("row of more houses", Check.row(x), 0, 1, 2, 3, 4, 5);
        c.dueAll("had of more houses", Check.had(x), 0, 0, 0, 0, 0, 0);
    }

    // ---- promises 6 to 8

    private static void houseUnknown(Check c) {
        c.sentence("6: UNKNOWN");
        for (int houses = 2; houses <= 6; houses++) {
            TurningTown x = Check.town(SIX.substring(0, 12 + 3 * houses));
            for (int what = 0; what <= 7; what++) {
                c.due("house(" + houses + ", " + what + ")", x.house(houses, what), UNKNOWN);
                c.due("house(-1, " + what + ")", x.house(-1, what), UNKNOWN);
                c.due("house(MIN, " + what + ")", x.house(MIN, what), UNKNOWN);
                c.due("house(MAX, " + what + ")", x.house(MAX, what), UNKNOWN);
            }
            c.due("house(0, 3)", x.house(0, 3), 0);
            c.due("house(" + (houses - 1) + ", 3)", x.house(houses - 1, 3), houses - 1);
            c.due("house(" + houses + ", 8)", x.house(houses, 8), UNKNOWN);
            c.due("house(-1, -1)", x.house(-1, -1), UNKNOWN);
        }
        c.due("house(0, 0) without a square", new TurningTown().house(0, 0), UNKNOWN);
        c.due("house(0, 8) without a square", new TurningTown().house(0, 8), UNKNOWN);
    }

    private static void houseOutside(Check c) {
        c.sentence("6: OUTSIDE (what = 0 to 7)");
        TurningTown x = Check.town(SIX);
        for (int what : new int[] {MIN, -104, -2, -1, 8, 9, 10, 100, MAX}) {
            c.due("house(0, " + what + ")", x.house(0, what), OUTSIDE);
            c.due("house(5, " + what + ")", x.house(5, what), OUTSIDE);
        }
        c.due("house(3, 0)", x.house(3, 0), 3);
        c.due("house(3, 7)", x.house(3, 7), 5);
    }

    private static void houseDown(Check c) {
        c.sentence("6: its PLOT (NONE: it is DOWN)");
        TurningTown x = Check.town("012345678905;ea,hb");
        c.due("house(0, 2)", x.house(0, 2), 0);
        x.night();
        c.due("house(0, 2) while it is down", x.house(0, 2), NONE);
        c.due("house(1, 2) while another is down", x.house(1, 2), 1);
        x.night();
        c.due("house(0, 2) once it is put up", x.house(0, 2), 2);
    }

    private static void houseTradeDown(Check c) {
        c.sentence("6: its PLOT by TRADE (NONE: it is DOWN)");
        TurningTown x = Check.town("012345678905;eb,ha,hc");
        c.due("house(0, 7)", x.house(0, 7), 1);
        x.night();
        c.due("house(0, 7) while it is down", x.house(0, 7), NONE);
        c.due("house(1, 7) while another is down", x.house(1, 7), 1);
        c.due("house(2, 7) while another is down", x.house(2, 7), 2);
    }

    private static void houseLookNone(Check c) {
        c.sentence("6: LOOK (NONE)");
        TurningTown x = Check.town("012345678905;ha,hb");
        c.due("house(1, 6)", x.house(1, 6) > 0 ? 1 : 0, 1);
        x.see(1, 0, 1);
        c.due("house(1, 5)", x.house(1, 5), 0);
        c.due("house(1, 6)", x.house(1, 6), NONE);
        c.due("house(0, 6) of another", x.house(0, 6), 4);
    }

    private static void asNone(Check c) {
        c.sentence("7: NONE: it is none such (the cast fails)");
        TurningTown x = Check.town("304159265358;ha,ea,ta,sa,ca");
        String[] casts = {"h", "he", "ht", "hs", "hec"};
        for (int house = 0; house < 5; house++) {
            for (int kind = 0; kind < 5; kind++) {
                boolean isSuch = casts[house].indexOf("hetsc".charAt(kind)) >= 0;
                c.due("as(" + house + ", " + kind + ")", x.as(house, kind), isSuch ? house : NONE);
            }
        }
        Check.nights(x, 2);
        c.due("as(1, 1) while it is down", x.as(1, 1), 1);
        c.due("as(1, 4) while it is down", x.as(1, 4), NONE);
    }

    private static void asUnknown(Check c) {
        c.sentence("7: UNKNOWN");
        TurningTown x = Check.town("304159265358;ha,ea");
        for (int house : new int[] {MIN, -1, 2, 3, 6, MAX}) {
            c.due("as(" + house + ", 0)", x.as(house, 0), UNKNOWN);
            c.due("as(" + house + ", 4)", x.as(house, 4), UNKNOWN);
            c.due("as(" + house + ", 5)", x.as(house, 5), UNKNOWN);
            c.due("as(" + house + ", -1)", x.as(house, -1), UNKNOWN);
        }
        c.due("as(0, 0) without a square", new TurningTown().as(0, 0), UNKNOWN);
        c.due("as(0, 5) without a square", new TurningTown().as(0, 5), UNKNOWN);
    }

    private static void asOutside(Check c) {
        c.sentence("7: OUTSIDE");
        TurningTown x = Check.town("304159265358;ha,ca");
        for (int kind : new int[] {MIN, -2, -1, 5, 6, 31, MAX}) {
            c.due("as(0, " + kind + ")", x.as(0, kind), OUTSIDE);
            c.due("as(1, " + kind + ")", x.as(1, kind), OUTSIDE);
        }
    }

    private static void plotNone(Check c) {
        c.sentence("8: which house stands there (NONE)");
        TurningTown x = Check.town("012345678905;ea,hb");
        c.due("plot(0, 1)", x.plot(0, 1), 0);
        c.due("plot(2, 1) where none stood", x.plot(2, 1), NONE);
        c.due("plot(11, 1) where none stood", x.plot(11, 1), NONE);
        x.night();
        c.due("plot(0, 1) of one that is down", x.plot(0, 1), NONE);
        x.night();
        c.due("plot(0, 1) of one that was moved", x.plot(0, 1), NONE);
        c.due("plot(2, 1) where it is put up", x.plot(2, 1), 0);
        x.swap(0, 1);
        c.due("plot(2, 1) behind a swap", x.plot(2, 1), 1);
        c.due("plot(1, 1) behind a swap", x.plot(1, 1), 0);
    }

    private static void plotUnknown(Check c) {
        c.sentence("8: UNKNOWN: plot (0 to 11)");
        TurningTown x = Check.town("012345678905;ea,hb");
        for (int plot : new int[] {MIN, -104, -2, -1, 12, 13, 24, MAX}) {
            for (int what = -1; what <= 3; what++) {
                c.due("plot(" + plot + ", " + what + ")", x.plot(plot, what), UNKNOWN);
            }
        }
        c.due("plot(0, 2)", x.plot(0, 2), 1);
        c.due("plot(11, 2)", x.plot(11, 2), 0);
    }

    private static void plotUnknownWithoutASquare(Check c) {
        c.sentence("8: UNKNOWN: also without a SQUARE");
        TurningTown x = page(SIX);
        for (int plot = -1; plot <= 12; plot++) {
            for (int what = -1; what <= 3; what++) {
                c.due("plot(" + plot + ", " + what + ")", x.plot(plot, what), UNKNOWN);
            }
        }
        x.square();
        c.due("plot(0, 0) with one", x.plot(0, 0), 3);
    }

    private static void plotOutside(Check c) {
        c.sentence("8: OUTSIDE (what = 0 to 2)");
        TurningTown x = Check.town("012345678905;ea,hb");
        for (int what : new int[] {MIN, -104, -1, 3, 4, 7, 8, MAX}) {
            c.due("plot(0, " + what + ")", x.plot(0, what), OUTSIDE);
            c.due("plot(11, " + what + ")", x.plot(11, what), OUTSIDE);
        }
    }
}
