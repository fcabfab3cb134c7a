import java.util.function.ToLongFunction;

/**
 * The edges of readings, burnt dishes, dinners by a seed, the fraction, images, STATUS, counts and the digest (promises 24
 * to 36). Each part's name tells the promise and the sentence.
 */
public final class BeforeEdgeTest {
    private static final int NONE = DinnerPleas.NONE, BAD = DinnerPleas.BAD, NO = DinnerPleas.NO, FULL = DinnerPleas.FULL;
    private static final int NO_LEAN = -100;
    private static final int[] ONES = {1, 1, 1, 1, 1, 1, 1, 1};
    private static final Checks c = new Checks();
    private static final Twins twins = new Twins(c);

    public static void main(String[] args) {
        readingsAsMany();
        readingsKeepTheMenu();
        forgetReadings();
        noReadings();
        leansAtTheEnds();
        oneLeanForAll();
        fromNothingServed();
        tellsAtMost();
        tellsOfWhatIsLeft();
        sureOfNothing();
        sureAtEquity();
        sureOfEachOne();
        sureServesTheBurnt();
        burntByNoneAndAll();
        burntOfNothing();
        burntInLowestTerms();
        burntAtMost();
        burntAllTogether();
        dinnersMany();
        dinnersEnd();
        dinnersGoOn();
        dinnersFromNow();
        dinnersLong();
        imagesOfNothing();
        imagesOfAll();
        imagesApart();
        statusCounts();
        countsLeastAndMost();
        digests();
        c.end();
    }

    // ---- promises 24 and 25

    private static void readingsAsMany() {
        c.begin("24 reading: READINGS 0 .. 5, as they come: how many there are");
        DinnerPleas x = Courts.plain(ONES);
        for (int i = 0; i < 6; i++) {
            c.due("reading(" + i % 2 + ", " + i % 3 + ")", x.reading(i % 2, i % 3), i + 1);
            c.due("count(4)", x.count(4), i + 1);
        }
        c.due("status(2)", x.status(2), 0);
        c.due("a 7th", x.reading(0, 0), FULL);
        c.due("count(4)", x.count(4), 6);
        c.due("status(2)", x.status(2), 1);
    }

    private static void readingsKeepTheMenu() {
        c.begin("24 reading: THE MENU as it is now");
        DinnerPleas x = Courts.plain(3, 5, 1);
        Courts.menuOf(x, 0);
        x.reading(0, 2);
        c.due("before(1)", x.before(1), -3);
        Courts.menuOf(x, 1);
        c.due("wiped since", x.before(1), -3);
        c.due("wiped since", x.before(0), 1);
        Courts.menuOf(x, 0, 1);
        c.due("longer since", x.before(1), -3);
        DinnerPleas y = Courts.plain(ONES);
        Courts.menuOf(y, 7, 6, 5, 4, 3, 2, 1, 0);
        y.reading(1, 2);
        y.wipe();
        y.reading(0, 2);
        long[] values = new long[6 + 1 + 25 + 40 + 11 + 3 + 2];
        System.arraycopy(new long[] {8, 5, 0, 0, 2, 0}, 0, values, 0, 6);
        for (int i = 0; i < 8; i++) {
            System.arraycopy(new long[] {0, 0, 1, 0, 2}, 0, values, 32 + 5 * i, 5);
        }
        System.arraycopy(new long[] {1, 2, 8, 7, 6, 5, 4, 3, 2, 1, 0, 0, 2, 0, 0, 1}, 0, values, 72, 16);
        c.due("the longest and the empty one, by the digest", y.digest(), Checks.digestOf(values));
    }

    private static void forgetReadings() {
        c.begin("25 forget: no READINGS: how many there were");
        for (int many = 0; many <= 6; many++) {
            DinnerPleas x = Courts.plain(ONES);
            for (int i = 0; i < many; i++) {
                x.reading(0, 1);
            }
            c.due("forget() of " + many, x.forget(), many);
            c.due("count(4)", x.count(4), 0);
            c.due("before(0)", x.before(0), 61);
            c.due("forget() again", x.forget(), 0);
            c.due("the first again", x.reading(1, 0), 1);
        }
    }

    // ---- promises 26 and 27

    private static void noReadings() {
        c.begin("26 before: -30 .. 30, there being no READINGS");
        for (int lean = -30; lean <= 30; lean += 30) {
            DinnerPleas x = new DinnerPleas();
            x.lean(lean);
            c.due("before(0), leaning " + lean, x.before(0), 61);
            c.due("before(1), leaning " + lean, x.before(1), -30);
        }
    }

    /** A menu that pulls the judge by so much (25 to 32) to the side that is first. */
    private static DinnerPleas pulling(int by) {
        DinnerPleas x = Courts.plain(9, 1, 9, 1, 9, 1, by - 23, 1);
        Courts.menuOf(x, 0, 1, 2, 3, 4, 5, 6, 7);
        c.due("the pull", x.comes(0), by);
        return x;
    }

    private static void leansAtTheEnds() {
        c.begin("26 before: how many (0), the least (1; -100: none), at -30 and 30");
        int[][] side0 = {
            // A pull, then for each verdict how many leans are left, and the least.
            {28, 58, -27, 2, -30, 1, -28},
            {29, 59, -28, 1, -30, 1, -29},
            {30, 60, -29, 0, NO_LEAN, 1, -30},
            {31, 61, -30, 0, NO_LEAN, 0, NO_LEAN}};
        int[][] side1 = {
            {28, 2, 29, 58, -30, 1, 28},
            {29, 1, 30, 59, -30, 1, 29},
            {30, 0, NO_LEAN, 60, -30, 1, 30},
            {31, 0, NO_LEAN, 61, -30, 0, NO_LEAN}};
        for (int i = 0; i < side0.length; i++) {
            leansLeft(side0[i], 0);
            leansLeft(side1[i], 1);
        }
    }

    private static void leansLeft(int[] row, int side) {
        for (int verdict = 0; verdict <= 2; verdict++) {
            DinnerPleas x = pulling(row[0]);
            x.reading(side, verdict);
            String when = ", pulled by " + row[0] + " to " + side + ", verdict " + verdict;
            c.due("before(0)" + when, x.before(0), row[1 + 2 * verdict]);
            c.due("before(1)" + when, x.before(1), row[2 + 2 * verdict]);
        }
    }

    private static void oneLeanForAll() {
        c.begin("26 before: by which all READINGS are so");
        DinnerPleas x = Courts.plain(1, 2);
        x.reading(0, 0);
        c.due("above 0: how many", x.before(0), 30);
        c.due("above 0: the least", x.before(1), 1);
        Courts.menuOf(x, 1);
        x.reading(1, 1);
        c.due("below 2: how many", x.before(0), 1);
        c.due("below 2: the least", x.before(1), 1);
        Courts.menuOf(x, 0);
        x.reading(1, 2);
        c.due("1 alone: how many", x.before(0), 1);
        x.reading(1, 0);
        c.due("above 1: none", x.before(0), 0);
        c.due("above 1: none", x.before(1), NO_LEAN);
        c.due("status(0)", x.status(0), 0);
        for (int last = 0; last < 6; last++) {
            DinnerPleas y = Courts.plain(ONES);
            for (int i = 0; i < 6; i++) {
                y.reading(0, i == last ? 2 : 0);
            }
            c.due("one of six is not as the others", y.before(0), 0);
        }
    }

    private static void fromNothingServed() {
        c.begin("26 before: from nothing served (as HUNGRY as told at first)");
        for (int hunger = 0; hunger <= 9; hunger++) {
            DinnerPleas x = new DinnerPleas();
            x.court(hunger);
            x.dish(3, 0, 4, 0, 2);
            x.dish(0, 0, 1, 0, 2);
            x.dish(2, 1, 1, 0, 2);
            x.book(0, 0, 3);
            x.serve(1, 0);
            x.serve(2, 1);
            x.serve(0, 1);
            x.lean(17);
            Courts.menuOf(x, 0);
            x.reading(0, 2);
            c.due("bread, told " + hunger, x.before(1), -4 - hunger);
            x.forget();
            Courts.menuOf(x, 2);
            x.reading(1, 2);
            c.due("a stew", x.before(1), 1);
            c.due("tells(0): above -1", x.tells(0), 1);
        }
        DinnerPleas y = new DinnerPleas();
        Checks.readOnly(y, "court 8;dish 3 0 1 0 2;");
        y.serve(0, 0);
        y.menu(0);
        y.reading(0, 2);
        c.due("as told by the text", y.before(1), -9);
    }

    private static void tellsAtMost() {
        c.begin("27 tells: how many of these would be left at most");
        DinnerPleas x = Courts.plain(ONES);
        c.due("an empty menu: 30, 30, 1", x.tells(0), 30);
        c.due("an empty menu", x.tells(1), 30);
        Courts.menuOf(x, 0);
        c.due("pulled by 1", x.tells(0), 31);
        c.due("pulled by 1", x.tells(1), 31);
        c.due("pulled by 29: 59, 1, 1", pulling(29).tells(0), 59);
        c.due("pulled by 30: 60, 0, 1", pulling(30).tells(0), 60);
        c.due("pulled by 31: 61, 0, 0", pulling(31).tells(0), 61);
        c.due("pulled by 31 to side 1", pulling(31).tells(1), 61);
    }

    private static void tellsOfWhatIsLeft() {
        c.begin("27 tells: of those by which all READINGS are so");
        DinnerPleas x = Courts.plain(2, 1);
        x.reading(0, 0);
        Courts.menuOf(x, 0);
        x.reading(1, 1);
        // 1 alone is above 0 and below 2.
        c.due("one left", x.tells(0), 1);
        c.due("one left", x.tells(1), 1);
        Courts.menuOf(x, 1);
        c.due("one left, equity", x.tells(1), 1);
        x.reading(0, 1);
        c.due("none left", x.tells(0), 0);
        x.forget();
        x.wipe();
        x.reading(0, 1);
        c.due("below 0: -30 .. -1", x.tells(0), 30);
        Courts.menuOf(x, 0);
        c.due("-30 .. -3, -2, -1", x.tells(0), 28);
        c.due("nothing new", x.tells(1), 30);
    }

    // ---- promise 28

    private static void sureOfNothing() {
        c.begin("28 sure: THE MENU is empty, or passed over");
        for (int lean = -1; lean <= 1; lean++) {
            DinnerPleas x = Courts.plain(ONES);
            x.lean(lean);
            c.due("sure(0), leaning " + lean, x.sure(0), 1);
            c.due("sure(1), leaning " + lean, x.sure(1), 1);
            for (int i = 0; i < 8; i++) {
                x.menu(i);
                x.serve(i, i % 2);
            }
            c.due("all passed over: sure(0)", x.sure(0), 1);
            c.due("all passed over: sure(1)", x.sure(1), 1);
        }
    }

    private static void sureAtEquity() {
        c.begin("28 sure: whether VERDICT is the same, also as EQUITY");
        int[] leans = {-6, -5, -4, -1, 0, 1, 30, -30};
        int[] sure = {1, 0, 0, 0, 0, 1, 1, 1};
        for (int i = 0; i < leans.length; i++) {
            DinnerPleas x = Courts.plain(5);
            x.menu(0);
            x.lean(leans[i]);
            c.due("sure(0), leaning " + leans[i], x.sure(0), sure[i]);
            x.lean(-leans[i]);
            c.due("sure(1), leaning " + -leans[i], x.sure(1), sure[i]);
        }
        DinnerPleas x = new DinnerPleas();
        x.dish(5, 0, 9, 0, 2);
        x.menu(0);
        c.due("one that does nothing, burnt or not", x.sure(0), 1);
    }

    private static void sureOfEachOne() {
        c.begin("28 sure: whichever one of its DISHES is burnt");
        for (int strong = 0; strong < 8; strong += 2) {
            int[] forces = ONES.clone();
            forces[strong] = 5;
            DinnerPleas x = Courts.plain(forces);
            Courts.menuOf(x, 0, 1, 2, 3, 4, 5, 6, 7);
            c.due("4, less 5: " + strong + " matters", x.sure(0), 0);
            x.lean(2);
            c.due("6, less 5", x.sure(0), 1);
            x.lean(1);
            c.due("5, less 5: equity", x.sure(0), 0);
        }
        DinnerPleas x = Courts.plain(3, 1, 3, 1);
        Courts.menuOf(x, 0, 1, 2, 3);
        c.due("one, not two: 4 less 3", x.sure(0), 1);
    }

    private static void sureServesTheBurnt() {
        c.begin("28 sure: burnt: DOES nothing, but is served");
        DinnerPleas x = new DinnerPleas();
        x.dish(0, 0, 9, 0, 2);
        x.dish(1, 0, 4, 0, 2);
        Courts.menuOf(x, 0, 1);
        x.lean(8);
        c.due("9 burnt: 8 - 8", x.sure(0), 0);
        x.lean(9);
        c.due("9 burnt: 9 - 8", x.sure(0), 1);
    }

    // ---- promises 29 and 31

    private static void chance(DinnerPleas x, int side, int odds, int v, long above, long below) {
        String call = "burnt(" + side + ", " + odds + ", " + v + ")";
        c.due(call, x.burnt(side, odds, v), 1);
        c.due(call + ", above", x.part(0), above);
        c.due(call + ", below", x.part(1), below);
    }

    private static void burntByNoneAndAll() {
        c.begin("29 burnt: c of 10 (0 .. 10)");
        DinnerPleas x = Courts.plain(ONES);
        x.menu(0);
        int[][] tenths = {{1, 1}, {9, 10}, {4, 5}, {7, 10}, {3, 5}, {1, 2}, {2, 5}, {3, 10}, {1, 5}, {1, 10}, {0, 1}};
        for (int odds = 0; odds <= 10; odds++) {
            chance(x, 0, odds, 0, tenths[odds][0], tenths[odds][1]);
            chance(x, 0, odds, 2, tenths[10 - odds][0], tenths[10 - odds][1]);
            chance(x, 0, odds, 1, 0, 1);
            chance(x, 1, odds, 1, tenths[odds][0], tenths[odds][1]);
            chance(x, 1, odds, 0, 0, 1);
        }
        c.due("status(0)", x.status(0), 0);
    }

    private static void burntOfNothing() {
        c.begin("29 burnt: THE MENU is empty, or passed over");
        int[] verdicts = {1, 2, 0};
        for (int lean = -1; lean <= 1; lean++) {
            DinnerPleas x = Courts.plain(ONES);
            for (int full = 0; full < 2; full++) {
                x.lean(lean);
                for (int v = 0; v <= 2; v++) {
                    chance(x, 0, 7, v, v == verdicts[1 + lean] ? 1 : 0, 1);
                    chance(x, 1, 3, v, v == verdicts[1 + lean] ? 1 : 0, 1);
                }
                for (int i = 0; i < 8; i++) {
                    x.menu(i);
                    x.serve(i, 0);
                }
            }
        }
    }

    private static void burntInLowestTerms() {
        c.begin("29 burnt: THE FRACTION in lowest terms, below above 0");
        DinnerPleas x = Courts.plain(1, 1, 1, 1);
        Courts.menuOf(x, 0, 1);
        chance(x, 0, 5, 2, 1, 2);
        chance(x, 0, 2, 2, 17, 25);
        chance(x, 0, 3, 2, 29, 50);
        chance(x, 0, 4, 0, 6, 25);
        chance(x, 0, 0, 1, 0, 1);
        chance(x, 0, 0, 2, 1, 1);
        c.begin("29 burnt: each apart, those passed over do not count");
        x.serve(0, 0);
        x.lean(0);
        chance(x, 0, 3, 0, 7, 10);
        chance(x, 0, 3, 2, 3, 10);
    }

    private static void burntAtMost() {
        c.begin("29 burnt: as many DISHES as may be");
        DinnerPleas x = Courts.plain(ONES);
        Courts.menuOf(x, 0, 1, 2, 3, 4, 5, 6, 7);
        x.lean(3);
        // Side 0 first with none of its own whole, side 1 with all of them: 3 - 4.
        chance(x, 0, 3, 1, 3L * 3 * 3 * 3 * 7 * 7 * 7 * 7, 100000000L);
        chance(x, 0, 7, 1, 7L * 7 * 7 * 7 * 3 * 3 * 3 * 3, 100000000L);
        chance(x, 0, 1, 1, 9L * 9 * 9 * 9, 100000000L);
        chance(x, 0, 5, 1, 1, 256);
        chance(x, 0, 10, 0, 1, 1);
        chance(x, 0, 0, 0, 1, 1);
        x.lean(30);
        chance(x, 1, 9, 0, 1, 1);
        chance(x, 1, 9, 1, 0, 1);
    }

    private static void burntAllTogether() {
        c.begin("29 burnt: the chances of 0, 1, 2 are 1 together");
        for (int odds = 0; odds <= 10; odds++) {
            DinnerPleas x = Courts.plain(1, 2, 3, 4, 5, 6, 7, 8);
            Courts.menuOf(x, 0, 1, 2, 3, 4, 5, 6, 7);
            long sum = 0;
            for (int v = 0; v <= 2; v++) {
                x.burnt(0, odds, v);
                c.holds("below is a part of 10 to the 8th", 100000000L % x.part(1) == 0);
                sum += x.part(0) * (100000000L / x.part(1));
            }
            c.due("by odds of " + odds, sum, 100000000L);
        }
    }

    // ---- promise 30

    private static long next(long x) {
        return Math.floorMod(x * 1103515245L + 12345L, 1L << 31);
    }

    private static int drawn(long x) {
        return (int) (x / 65536 % 9);
    }

    /** The least seed whose first draws are these. */
    private static int seedOf(int... draws) {
        for (int seed = 0; seed <= 999999; seed++) {
            long x = seed;
            int fits = 0;
            while (fits < draws.length && drawn(next(x)) == draws[fits]) {
                x = next(x);
                fits++;
            }
            if (fits == draws.length) {
                return seed;
            }
        }
        throw new IllegalStateException("no seed draws so");
    }

    private static void dinnersMany() {
        c.begin("30 dinners: a SEED (0 .. 999999), n (0 .. 60)");
        for (int seed : new int[] {0, 1, 999998, 999999}) {
            DinnerPleas x = Courts.plain(ONES);
            x.lean(30);
            for (int n = 0; n <= 60; n++) {
                c.due("dinners(" + seed + ", " + n + ") far to side 0", x.dinners(seed, n), n);
            }
            x.lean(-30);
            c.due("dinners(" + seed + ", 60) far to side 1", x.dinners(seed, 60), 0);
            x.lean(0);
            c.due("dinners(" + seed + ", 1)", x.dinners(seed, 1), oddOnes(seed, 1));
            c.due("dinners(" + seed + ", 59)", x.dinners(seed, 59), oddOnes(seed, 59));
            c.due("dinners(" + seed + ", 60)", x.dinners(seed, 60), oddOnes(seed, 60));
            c.due("status(0)", x.status(0), 0);
        }
        c.due("no dishes, no lean", new DinnerPleas().dinners(0, 60), 0);
    }

    /** With dishes of 1 for both, side 0 wins the dinners of an odd number of courses. */
    private static int oddOnes(long x, int n) {
        int odd = 0;
        for (int dinner = 0; dinner < n; dinner++) {
            int served = 0;
            x = next(x);
            while (drawn(x) < 8 && (served >> drawn(x) & 1) == 0) {
                served |= 1 << drawn(x);
                x = next(x);
            }
            odd += Integer.bitCount(served) % 2;
        }
        return odd;
    }

    private static void dinnersEnd() {
        c.begin("30 dinners: none such: the dinner ends");
        for (int many = 0; many <= 8; many++) {
            DinnerPleas x = Courts.plain(ONES, many);
            c.due("the first that is not there, of " + many, x.dinners(seedOf(many), 1), 0);
            if (many > 0) {
                c.due("the last that is there, of " + many, x.dinners(seedOf(many - 1, 8), 1), 1);
            }
        }
        c.begin("30 dinners: one served already: the dinner ends");
        DinnerPleas x = Courts.plain(1, 2, 9);
        c.due("0, 0 again, 1 no more", x.dinners(seedOf(0, 0, 1), 1), 1);
        c.due("0, 1, 8", x.dinners(seedOf(0, 1, 8), 1), 0);
        c.due("0, 1, 2, 8", x.dinners(seedOf(0, 1, 2, 8), 1), 1);
        c.due("0, 1, 0 again, 2 no more", x.dinners(seedOf(0, 1, 0, 2), 1), 0);
        c.begin("30 dinners: of the other COOK: the dinner ends");
        int[] wins = {1, 0, 1};
        for (int cook = 0; cook <= 2; cook++) {
            DinnerPleas y = new DinnerPleas();
            y.dish(0, 0, 2, 0, cook);
            y.dish(0, 0, 5, 0, 2);
            c.due("by side 0, one of " + cook, y.dinners(seedOf(0, 8), 1), wins[cook]);
            DinnerPleas z = new DinnerPleas();
            z.dish(0, 0, 2, 0, 2);
            z.dish(0, 0, 5, 0, cook);
            c.due("by side 1, one of " + cook, z.dinners(seedOf(0, 1, 8), 1), cook == 0 ? 1 : 0);
        }
        c.begin("30 dinners: in how many VERDICT is for side 0");
        int[] leans = {-3, -2, -1, 0, 1};
        int[] won = {0, 0, 1, 1, 1};
        for (int i = 0; i < leans.length; i++) {
            DinnerPleas y = Courts.plain(2);
            y.lean(leans[i]);
            c.due("2 by side 0, leaning " + leans[i], y.dinners(seedOf(0, 8), 1), won[i]);
            c.due("nothing, leaning " + leans[i], y.dinners(seedOf(8), 1), leans[i] > 0 ? 1 : 0);
        }
    }

    private static void dinnersGoOn() {
        c.begin("30 dinners: X goes on from dinner to dinner, each from now on, side 0 first");
        DinnerPleas x = Courts.plain(1, 1);
        c.due("8; 0, 8", x.dinners(seedOf(8, 0, 8), 2), 1);
        c.due("0, 8; 8", x.dinners(seedOf(0, 8, 8), 2), 1);
        c.due("0, 8; 0, 8", x.dinners(seedOf(0, 8, 0, 8), 2), 2);
        c.due("0, 0; 1, 1", x.dinners(seedOf(0, 0, 1, 1), 2), 2);
        c.due("0, 1, 8; 0, 8", x.dinners(seedOf(0, 1, 8, 0, 8), 2), 1);
        c.due("0, 8; 1, 8; 0, 8", x.dinners(seedOf(0, 8, 1, 8, 0, 8), 3), 3);
        c.due("the same again", x.dinners(seedOf(0, 8, 1, 8, 0, 8), 3), 3);
    }

    private static void dinnersFromNow() {
        c.begin("30 dinners: from now on");
        DinnerPleas x = Courts.plain(4, 5);
        x.serve(0, 1);
        c.due("one served ends it", x.dinners(seedOf(0, 1), 1), 0);
        c.due("-4 and 5 by side 0", x.dinners(seedOf(1, 8), 1), 1);
        x.book(0, 0, -1);
        c.due("-4 and 5 less 1, behind dish 0", x.dinners(seedOf(1, 8), 1), 0);
        DinnerPleas y = Courts.plain(ONES);
        for (int i = 0; i < 8; i++) {
            y.serve(i, 0);
        }
        c.due("all served", y.dinners(7, 60), 60);
        y.lean(0);
        c.due("all served, equity", y.dinners(7, 60), 0);
    }

    private static void dinnersLong() {
        c.begin("30 dinners: as many COURSES as there are DISHES");
        int seed = longSeed();
        DinnerPleas x = Courts.plain(ONES);
        c.due("4 and 4", x.dinners(seed, 1), 0);
        x.lean(1);
        c.due("1 and 4 and 4", x.dinners(seed, 1), 1);
        x.lean(0);
        c.due("the next ones", x.dinners(seed, 60), oddOnes(seed, 60));
    }

    /** The least seed by which a dinner has all 8 dishes. */
    private static int longSeed() {
        for (int seed = 0; seed <= 999999; seed++) {
            long x = seed;
            int served = 0;
            for (int i = 0; i < 8; i++) {
                x = next(x);
                served |= 1 << drawn(x);
            }
            if (served == 255) {
                return seed;
            }
        }
        throw new IllegalStateException("no seed draws all");
    }

    // ---- promises 32 and 33

    private static void imagesOfNothing() {
        for (int i = 0; i < 2; i++) {
            c.begin("32 image, 33 from: nothing there yet, image " + i);
            DinnerPleas x = new DinnerPleas();
            c.due("image(" + i + ")", x.image(i), 1);
            x.dish(0, 0, 1, 0, 2);
            x.serve(0, 0);
            x.menu(0);
            x.reading(0, 0);
            x.book(0, 0, 1);
            c.due("from(" + i + ")", x.from(i), 1);
            c.due("digest()", x.digest(), new DinnerPleas().digest());
            c.due("undo()", x.undo(), NO);
            c.due("from(" + (1 - i) + ")", x.from(1 - i), NO);
        }
    }

    private static void imagesOfAll() {
        for (int i = 0; i < 2; i++) {
            int image = i;
            c.begin("32 image, 33 from: as many as may be, image " + i);
            DinnerPleas x = Courts.full();
            x.image(i);
            long was = x.digest();
            x.court(0);
            c.due("from(" + i + ")", x.from(i), 1);
            c.due("digest()", x.digest(), was);
            c.due("what may be undone they keep", x.undo(), 7);
            c.begin("33 from: it goes on as if nothing had been since");
            twins.same("behind from", keptAndBack(image), kept(image));
        }
    }

    private static DinnerPleas kept(int image) {
        DinnerPleas x = Courts.midway();
        x.image(image);
        return x;
    }

    private static DinnerPleas keptAndBack(int image) {
        DinnerPleas x = kept(image);
        x.undo();
        x.book(2, 2, 2);
        x.lean(30);
        x.wipe();
        x.forget();
        x.court(1);
        x.dish(0, 0, 9, 9, 0);
        x.serve(0, 0);
        x.from(image);
        return x;
    }

    private static void imagesApart() {
        c.begin("IMAGES 0, 1 keep all but them");
        DinnerPleas x = new DinnerPleas();
        x.lean(1);
        x.image(1);
        x.lean(2);
        x.image(0);
        x.lean(3);
        x.image(1);
        x.from(0);
        c.due("image 0", x.leans(), 2);
        x.lean(9);
        x.from(1);
        c.due("image 1 as kept last", x.leans(), 3);
        x.lean(9);
        x.from(0);
        c.due("image 0 again", x.leans(), 2);
        c.begin("IMAGES keep all but THE TEXT, THE FRACTION and STATUS");
        DinnerPleas y = new DinnerPleas();
        y.image(0);
        y.lean(5);
        Checks.typeAll(y, "court 3;");
        y.burnt(0, 0, 0);
        y.lean(31);
        y.undo();
        c.due("from(0)", y.from(0), 1);
        c.due("the text", y.count(5), 8);
        c.due("the fraction, above", y.part(0), 1);
        c.due("the fraction, below", y.part(1), 1);
        c.due("status(0)", y.status(0), 1);
        c.due("status(1)", y.status(1), 1);
        c.due("the text is whole", y.read(), 1);
        c.due("count(1)", y.count(1), 3);
    }

    // ---- promises 34 to 36

    private static void statusCounts() {
        c.begin("34 status: BAD (0), NO (1), FULL (2)");
        DinnerPleas x = Courts.full();
        long[] due = {0, 0, 0};
        long[] reasons = {BAD, NO, FULL};
        for (int round = 0; round < 10; round++) {
            for (int what = 0; what < 3; what++) {
                ToLongFunction<DinnerPleas> call = refusing(what);
                c.due("refused", call.applyAsLong(x), reasons[what]);
                due[what]++;
                for (int other = 0; other < 3; other++) {
                    c.due("status(" + other + ")", x.status(other), due[other]);
                }
            }
        }
        c.due("status(3)", x.status(3), -1);
        c.due("status(-1)", x.status(-1), NONE);
        c.due("status(0)", x.status(0), 12);
    }

    private static ToLongFunction<DinnerPleas> refusing(int what) {
        if (what == 0) {
            return x -> x.court(10);
        }
        return what == 1 ? x -> x.serve(0, 0) : x -> x.type(0);
    }

    private static void countsLeastAndMost() {
        c.begin("35 count: 0 DISHES .. 5 bytes of THE TEXT");
        int[] least = {0, 0, 0, 0, 0, 0};
        int[] most = {8, 1, 8, 8, 6, 150};
        DinnerPleas x = new DinnerPleas();
        x.court(0);
        DinnerPleas y = Courts.full();
        for (int what = 0; what < 6; what++) {
            c.due("count(" + what + ") of nothing", x.count(what), least[what]);
            c.due("count(" + what + ") of all", y.count(what), most[what]);
        }
        x.court(9);
        c.due("count(1), as hungry as may be", x.count(1), 9);
    }

    private static void digests() {
        c.begin("36 digest: nothing there yet");
        long h = 1019;
        for (int i = 0; i < 34; i++) {
            h = 31 * h + (i == 1 ? 5 : i == 33 ? 1 : 0);
        }
        c.due("digest()", new DinnerPleas().digest(), h);
        c.begin("36 digest: of all as many as may be, with the wrap-around of long");
        DinnerPleas x = Courts.full();
        long[] values = new long[6 + 1 + 25 + 40 + 24 + 8 + 66 + 2];
        int at = 0;
        for (int n : new int[] {8, 1, 8, 8, 6, 150, x.leans()}) {
            values[at++] = n;
        }
        for (int k = 0; k < 25; k++) {
            values[at++] = k % 7 - 3;
        }
        for (int i = 0; i < 8; i++) {
            for (int n : new int[] {i % 6, i % 5, 1 + i, 9 - i, 2}) {
                values[at++] = n;
            }
        }
        for (int i = 0; i < 8; i++) {
            for (int n : new int[] {i, i % 2, x.course(i, 2)}) {
                values[at++] = n;
            }
        }
        for (int i = 0; i < 8; i++) {
            values[at++] = 7 - i;
        }
        for (int i = 0; i < 6; i++) {
            for (int n : new int[] {i % 2, 1 - i % 2, 8, 7, 6, 5, 4, 3, 2, 1, 0}) {
                values[at++] = n;
            }
        }
        values[at++] = x.part(0);
        values[at++] = x.part(1);
        c.due("so many numbers", at, values.length);
        c.due("digest()", x.digest(), Checks.digestOf(values));
        c.begin("36 digest: numbers below 0");
        DinnerPleas y = new DinnerPleas();
        y.lean(-30);
        y.book(0, 0, -3);
        long[] below = new long[34];
        below[1] = 5;
        below[6] = -30;
        below[7] = -3;
        below[33] = 1;
        c.due("digest()", y.digest(), Checks.digestOf(below));
    }
}
