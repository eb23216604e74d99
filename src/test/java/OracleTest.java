import java.util.Random;

/** Runs of calls by a seed, each answer compared with the naive Oracle's; nothing may be thrown. */
public final class OracleTest {
    private static final int RUNS = 600;
    private static final int CALLS = 512;
    private static final int[] ODD = {Integer.MIN_VALUE, Integer.MIN_VALUE + 1, -104, -103, -102, -101, -2, -1,
        12, 13, 40, 41, 60, 61, 400, 401, Integer.MAX_VALUE - 1, Integer.MAX_VALUE};

    private final Random random;
    private final TurningTown town = new TurningTown();
    private final Oracle oracle = new Oracle();
    private final Check check;
    private final int run;
    private int calls;

    private OracleTest(Check check, int run) {
        this.check = check;
        this.run = run;
        this.random = new Random(run);
    }

    public static void main(String[] args) {
        Check check = new Check();
        for (int run = 0; run < RUNS; run++) {
            new OracleTest(check, run).go();
        }
        check.end();
    }

    private void go() {
        // Some runs begin without a square, or with calls that are odd.
        boolean mild = run % 4 != 0;
        if (mild) {
            writeSquare();
        }
        while (calls < CALLS) {
            callOne(random.nextInt(29), mild);
        }
    }

    private void due(String call, long got, long want) {
        calls++;
        check.due("run " + run + ", call " + calls + ": " + call, got, want);
    }

    private void write(String text) {
        for (char letter : text.toCharArray()) {
            due("letter(" + (int) letter + ")", town.letter(letter), oracle.letter(letter));
        }
    }

    private void writeSquare() {
        StringBuilder text = new StringBuilder();
        for (int plot = 0; plot < 12; plot++) {
            text.append(random.nextInt(10));
        }
        int houses = 2 + random.nextInt(5);
        String kinds = random.nextInt(4) == 0 ? "sts" : "hetsc";
        for (int house = 0; house < houses; house++) {
            text.append(house == 0 ? ';' : ',');
            text.append(kinds.charAt(random.nextInt(kinds.length())));
            text.append((char) ('a' + random.nextInt(random.nextBoolean() ? 12 : houses)));
        }
        due("blank()", town.blank(), oracle.blank());
        write(text.toString());
        due("fault()", town.fault(), oracle.fault());
        due("square()", town.square(), oracle.square());
    }

    /** A number of 0 to the limit, seldom another one. */
    private int number(int limit, boolean mild) {
        return random.nextInt(mild ? 20 : 4) == 0 ? ODD[random.nextInt(ODD.length)] : random.nextInt(limit + 1);
    }

    private int aHouse(boolean mild) {
        return number(mild ? Math.max(1, town.count(0)) - 1 : 6, mild);
    }

    private void callOne(int which, boolean mild) {
        int h = aHouse(mild);
        int g = aHouse(mild);
        int p = number(11, mild);
        int n = 1 + number(random.nextBoolean() ? 5 : 39, mild);
        switch (which) {
            case 0 -> writeSomething(mild);
            case 1 -> due("fault()", town.fault(), oracle.fault());
            case 2 -> due("square()", town.square(), oracle.square());
            case 3, 4 -> {
                int what = number(7, mild);
                due("house(" + h + ", " + what + ")", town.house(h, what), oracle.house(h, what));
            }
            case 5 -> {
                int kind = number(4, mild);
                due("as(" + h + ", " + kind + ")", town.as(h, kind), oracle.as(h, kind));
            }
            case 6 -> {
                int what = number(2, mild);
                due("plot(" + p + ", " + what + ")", town.plot(p, what), oracle.plot(p, what));
            }
            case 7, 8, 9, 10 -> due("night()", town.night(), oracle.night());
            case 11 -> due("snow()", town.snow(), oracle.snow());
            case 12 -> {
                int kind = number(4, mild);
                due("build(" + h + ", " + kind + ")", town.build(h, kind), oracle.build(h, kind));
            }
            case 13 -> due("swap(" + h + ", " + g + ")", town.swap(h, g), oracle.swap(h, g));
            case 14 -> {
                int nights = number(random.nextBoolean() ? 12 : 400, mild);
                due("where(" + h + ", " + nights + ")", town.where(h, nights), oracle.where(h, nights));
            }
            case 15 -> due("when(" + h + ", " + p + ")", town.when(h, p), oracle.when(h, p));
            case 16 -> due("neighbours(" + h + ", " + g + ")", town.neighbours(h, g), oracle.neighbours(h, g));
            case 17 -> due("again()", town.again(), oracle.again());
            case 18 -> due("post(" + h + ", " + p + ")", town.post(h, p), oracle.post(h, p));
            case 19 -> {
                int nights = number(60, mild);
                due("will(" + h + ", " + nights + ")", town.will(h, nights), oracle.will(h, nights));
            }
            case 20 -> due("rings()", town.rings(), oracle.rings());
            case 21 -> due("wish(" + h + ", " + p + ", " + n + ")", town.wish(h, p, n), oracle.wish(h, p, n));
            case 22 -> order(mild);
            case 23 -> see(h, p, n);
            case 24 -> years(mild);
            case 25 -> due("image()", town.image(), oracle.image());
            case 26 -> {
                int what = number(12, mild);
                due("count(" + what + ")", town.count(what), oracle.count(what));
            }
            case 27 -> seldom(mild);
            default -> {
                if (random.nextInt(4) == 0) {
                    due("digest()", town.digest(), oracle.digest());
                }
            }
        }
    }

    private void writeSomething(boolean mild) {
        if (random.nextInt(4) == 0) {
            writeSquare();
        } else if (!mild && random.nextBoolean()) {
            String near = "000000000000;ha,tb,sc,cd,ee,hf,,,".substring(0, random.nextInt(33));
            due("blank()", town.blank(), oracle.blank());
            write(near);
            write("" + "0;,hal".charAt(random.nextInt(6)));
        } else {
            int code = number(126, mild);
            due("letter(" + code + ")", town.letter(code), oracle.letter(code));
        }
    }

    private void order(boolean mild) {
        if (random.nextInt(6) == 0) {
            int what = random.nextBoolean() ? number(16, mild) : 10 + random.nextInt(6);
            due("order(" + what + ")", town.order(what), oracle.order(what));
        }
    }

    /** Mostly what is so for some kind, so that some kinds are left. */
    private void see(int house, int plot, int night) {
        int at = plot;
        if (random.nextInt(3) != 0) {
            int kind = town.house(house, 0);
            int other = random.nextInt(5);
            if (town.build(house, other) >= 0) {
                at = town.where(house, night);
                town.build(house, kind);
            } else {
                at = town.where(house, night);
            }
        }
        due("see(" + house + ", " + at + ", " + night + ")", town.see(house, at, night), oracle.see(house, at, night));
        due("house(" + house + ", 5)", town.house(house, 5), oracle.house(house, 5));
        due("house(" + house + ", 6)", town.house(house, 6), oracle.house(house, 6));
    }

    private void years(boolean mild) {
        int nights = number(60, mild);
        int seed = random.nextBoolean() ? random.nextInt(50) : random.nextInt();
        int what = number(2, mild);
        due("years(" + nights + ", " + seed + ", " + what + ")",
            town.years(nights, seed, what), oracle.years(nights, seed, what));
    }

    private void seldom(boolean mild) {
        switch (random.nextInt(mild ? 6 : 4)) {
            case 0 -> due("give()", town.give(), oracle.give());
            case 1 -> due("forget()", town.forget(), oracle.forget());
            case 2 -> due("blank()", town.blank(), oracle.blank());
            default -> due("restore()", town.restore(), oracle.restore());
        }
    }
}
