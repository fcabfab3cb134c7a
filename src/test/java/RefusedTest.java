import java.util.function.Supplier;
import java.util.function.ToLongFunction;

/**
 * Every call that the document refuses: its answer, the count of STATUS it goes to, and that it changes nothing else.
 * What is BAD whatever there is, is asked of an empty court, of one midway and of a full one, so that BAD is told ahead
 * of NO and FULL, too.
 */
public final class RefusedTest {
    private static final int BAD = DinnerPleas.BAD, NO = DinnerPleas.NO, FULL = DinnerPleas.FULL;
    private static final int LOW = Integer.MIN_VALUE, HIGH = Integer.MAX_VALUE;
    private static final Checks c = new Checks();
    private static final Twins twins = new Twins(c);

    public static void main(String[] args) {
        badOfTheCourt();
        badOfCourses();
        badOfMenus();
        badOfBeforeAndBurnt();
        badOfWhatThereIs();
        badAsNotThere();
        badAheadOfTheOthers();
        noOfServe();
        noOfUndo();
        noOfMenu();
        noOfFrom();
        fullOnes();
        noRefusals();
        askingChangesNothing();
        c.end();
    }

    /** Numbers outside of least .. most: the nearest on both sides, the farthest, and those that a cut int would let in. */
    private static int[] outside(int least, int most) {
        return new int[] {least - 1, most + 1, LOW, HIGH, least + 256, most + 65536, least - 65536};
    }

    private interface Asking {
        long ask(DinnerPleas x, int n);
    }

    private static void bad(String call, int least, int most, long answer, Asking asking) {
        for (int n : outside(least, most)) {
            badEverywhere(call + " with " + n, answer, x -> asking.ask(x, n));
        }
    }

    private static void badEverywhere(String call, long answer, ToLongFunction<DinnerPleas> asked) {
        twins.refused(call + ", empty", Courts::empty, asked, answer, Twins.BAD_COUNT);
        twins.refused(call + ", midway", Courts::midway, asked, answer, Twins.BAD_COUNT);
        twins.refused(call + ", full", Courts::full, asked, answer, Twins.BAD_COUNT);
    }

    private static void no(String call, Supplier<DinnerPleas> maker, ToLongFunction<DinnerPleas> asked) {
        twins.refused(call, maker, asked, NO, Twins.NO_COUNT);
    }

    private static void badOfTheCourt() {
        c.begin("2 court: BAD");
        bad("court(n)", 0, 9, BAD, (x, n) -> x.court(n));
        c.begin("3 dish: BAD");
        bad("dish(n, 0, 1, 0, 0)", 0, 5, BAD, (x, n) -> x.dish(n, 0, 1, 0, 0));
        bad("dish(5, n, 1, 0, 0)", 0, 4, BAD, (x, n) -> x.dish(5, n, 1, 0, 0));
        bad("dish(5, 4, n, 0, 0)", 1, 9, BAD, (x, n) -> x.dish(5, 4, n, 0, 0));
        bad("dish(5, 4, 9, n, 0)", 0, 9, BAD, (x, n) -> x.dish(5, 4, 9, n, 0));
        bad("dish(5, 4, 9, 9, n)", 0, 2, BAD, (x, n) -> x.dish(5, 4, 9, 9, n));
        c.begin("4 book: BAD: -10");
        bad("book(n, 0, 0)", 0, 4, -10, (x, n) -> x.book(n, 0, 0));
        bad("book(4, n, 3)", 0, 4, -10, (x, n) -> x.book(4, n, 3));
        bad("book(4, 4, n)", -3, 3, -10, (x, n) -> x.book(4, 4, n));
        c.begin("5 lean: BAD: -1000");
        bad("lean(n)", -30, 30, -1000, (x, n) -> x.lean(n));
        c.begin("6 type: BAD");
        bad("type(n)", 0, 127, BAD, (x, n) -> x.type(n));
    }

    private static void badOfCourses() {
        c.begin("9 serve: BAD");
        bad("serve(n, 0)", 0, 7, BAD, (x, n) -> x.serve(n, 0));
        bad("serve(0, n)", 0, 1, BAD, (x, n) -> x.serve(0, n));
        c.begin("11 of: BAD");
        bad("of(n, 5)", 0, 7, BAD, (x, n) -> x.of(n, 5));
        bad("of(n, 6)", 0, 7, BAD, (x, n) -> x.of(n, 6));
        bad("of(0, n)", 0, 6, BAD, (x, n) -> x.of(0, n));
        c.begin("12 course: BAD");
        bad("course(n, 0)", 0, 8, BAD, (x, n) -> x.course(n, 0));
        bad("course(0, n)", 0, 2, BAD, (x, n) -> x.course(0, n));
    }

    private static void badOfMenus() {
        c.begin("15 menu: BAD");
        bad("menu(n)", 0, 7, BAD, (x, n) -> x.menu(n));
        c.begin("17 comes: BAD: -1000");
        bad("comes(n)", 0, 1, -1000, (x, n) -> x.comes(n));
        c.begin("18 did: BAD: -10");
        bad("did(n, NONE)", 0, 1, -10, (x, n) -> x.did(n, -1));
        bad("did(n, 99): BAD, not -5", 0, 1, -10, (x, n) -> x.did(n, 99));
        badEverywhere("did(0, -2)", -10, x -> x.did(0, -2));
        badEverywhere("did(1, lowest)", -10, x -> x.did(1, LOW));
        c.begin("19 play: BAD: -1000");
        bad("play(n, 0)", 1, 5, -1000, (x, n) -> x.play(n, 0));
        bad("play(1, n)", 0, 1, -1000, (x, n) -> x.play(1, n));
        c.begin("20 first: BAD");
        bad("first(n, 1)", 1, 5, BAD, (x, n) -> x.first(n, 1));
        bad("first(1, n)", 0, 1, BAD, (x, n) -> x.first(1, n));
        c.begin("21 pardon: BAD: -10");
        bad("pardon(n, NONE)", 0, 1, -10, (x, n) -> x.pardon(n, -1));
        bad("pardon(n, 99): BAD, not -5", 0, 1, -10, (x, n) -> x.pardon(n, 99));
        badEverywhere("pardon(0, -2)", -10, x -> x.pardon(0, -2));
        badEverywhere("pardon(1, -2)", -10, x -> x.pardon(1, -2));
        badEverywhere("pardon(1, lowest)", -10, x -> x.pardon(1, LOW));
        c.begin("22 cancel: BAD: -10");
        badEverywhere("cancel(-2)", -10, x -> x.cancel(-2));
        badEverywhere("cancel(lowest)", -10, x -> x.cancel(LOW));
        c.begin("23 undoes: BAD");
        bad("undoes(n)", 0, 1, BAD, (x, n) -> x.undoes(n));
    }

    private static void badOfBeforeAndBurnt() {
        c.begin("24 reading: BAD");
        bad("reading(n, 0)", 0, 1, BAD, (x, n) -> x.reading(n, 0));
        bad("reading(0, n)", 0, 2, BAD, (x, n) -> x.reading(0, n));
        c.begin("26 before: BAD: -1000");
        bad("before(n)", 0, 1, -1000, (x, n) -> x.before(n));
        c.begin("27 tells: BAD");
        bad("tells(n)", 0, 1, BAD, (x, n) -> x.tells(n));
        c.begin("28 sure: BAD");
        bad("sure(n)", 0, 1, BAD, (x, n) -> x.sure(n));
        c.begin("29 burnt: BAD");
        bad("burnt(n, 5, 0)", 0, 1, BAD, (x, n) -> x.burnt(n, 5, 0));
        bad("burnt(0, n, 0)", 0, 10, BAD, (x, n) -> x.burnt(0, n, 0));
        bad("burnt(0, 5, n)", 0, 2, BAD, (x, n) -> x.burnt(0, 5, n));
        c.begin("30 dinners: BAD");
        for (int seed : new int[] {-1, 1000000, LOW, HIGH}) {
            badEverywhere("dinners(" + seed + ", 0)", BAD, x -> x.dinners(seed, 0));
        }
        bad("dinners(0, n)", 0, 60, BAD, (x, n) -> x.dinners(0, n));
    }

    private static void badOfWhatThereIs() {
        c.begin("31 part: BAD");
        bad("part(n)", 0, 1, BAD, (x, n) -> x.part(n));
        c.begin("32 image: BAD");
        bad("image(n)", 0, 1, BAD, (x, n) -> x.image(n));
        c.begin("33 from: BAD");
        bad("from(n)", 0, 1, BAD, (x, n) -> x.from(n));
        c.begin("34 status: -1: another what (counts as BAD)");
        bad("status(n)", 0, 2, -1, (x, n) -> x.status(n));
        c.begin("35 count: BAD");
        bad("count(n)", 0, 5, BAD, (x, n) -> x.count(n));
    }

    /** The first dish and the first course that are not there, for every number of them that may be. */
    private static void badAsNotThere() {
        for (int many = 0; many <= 8; many++) {
            int next = many;
            Supplier<DinnerPleas> some = () -> Courts.plain(new int[] {1, 2, 3, 4, 5, 6, 7, 8}, next);
            c.begin("9 serve: BAD, a dish that is not there, of " + many);
            badOf(some, "serve(" + next + ", 0)", x -> x.serve(next, 0));
            c.begin("11 of: BAD, a dish that is not there, of " + many);
            badOf(some, "of(" + next + ", 0)", x -> x.of(next, 0));
            badOf(some, "of(" + next + ", 6)", x -> x.of(next, 6));
            c.begin("15 menu: BAD, a dish that is not there, of " + many);
            badOf(some, "menu(" + next + ")", x -> x.menu(next));
            c.begin("12 course: BAD, a course that is not there, of " + many);
            badOf(() -> served(next), "course(" + next + ", 0)", x -> x.course(next, 0));
            badOf(() -> served(next), "course(" + next + ", 2)", x -> x.course(next, 2));
        }
    }

    private static void badOf(Supplier<DinnerPleas> maker, String call, ToLongFunction<DinnerPleas> asked) {
        twins.refused(call, maker, asked, BAD, Twins.BAD_COUNT);
    }

    /** 8 plain ones, so many of them served. */
    private static DinnerPleas served(int many) {
        DinnerPleas x = Courts.plain(1, 2, 3, 4, 5, 6, 7, 8);
        for (int i = 0; i < many; i++) {
            x.serve(i, i % 2);
        }
        return x;
    }

    private static void badAheadOfTheOthers() {
        c.begin("Refused, the first of: BAD, NO");
        badOf(() -> served(1), "a served dish by no side", x -> x.serve(0, 2));
        badOf(RefusedTest::cooks, "side 1's dish by no side", x -> x.serve(1, -1));
        badOf(Courts::empty, "an image that can not be, none kept", x -> x.from(2));
        c.begin("Refused, the first of: BAD, FULL");
        badOf(Courts::full, "a 9th dish, wrong in its last number", x -> x.dish(0, 0, 1, 0, 3));
        badOf(Courts::full, "a 151st byte that can not be", x -> x.type(128));
        badOf(Courts::full, "a 7th reading, its verdict wrong", x -> x.reading(1, 3));
    }

    /** Dish 0 of side 0, dish 1 of side 1, dish 2 of both. */
    private static DinnerPleas cooks() {
        DinnerPleas x = new DinnerPleas();
        x.dish(0, 0, 4, 2, 0);
        x.dish(1, 0, 3, 1, 1);
        x.dish(2, 1, 2, 0, 2);
        return x;
    }

    private static DinnerPleas cooksServed() {
        DinnerPleas x = cooks();
        x.serve(0, 0);
        x.serve(1, 1);
        x.serve(2, 0);
        return x;
    }

    private static void noOfServe() {
        c.begin("9 serve: NO: it was served");
        for (int dish = 0; dish < 8; dish++) {
            int again = dish;
            no("serve(" + again + ", 0) again", () -> served(8), x -> x.serve(again, 0));
            no("serve(" + again + ", 1) again", () -> served(8), x -> x.serve(again, 1));
        }
        no("the first of three again", RefusedTest::cooksServed, x -> x.serve(0, 0));
        no("the second of three again", RefusedTest::cooksServed, x -> x.serve(1, 1));
        no("one of both by the same side again", RefusedTest::cooksServed, x -> x.serve(2, 0));
        no("one of both by the other side again", RefusedTest::cooksServed, x -> x.serve(2, 1));
        c.begin("9 serve: NO: it is the other COOK's");
        no("side 0's by side 1", RefusedTest::cooks, x -> x.serve(0, 1));
        no("side 1's by side 0", RefusedTest::cooks, x -> x.serve(1, 0));
        no("served, and the other's", RefusedTest::cooksServed, x -> x.serve(0, 1));
    }

    private static void noOfUndo() {
        c.begin("10 undo: NO: none may be");
        no("undo() of a new object", Courts::empty, x -> x.undo());
        no("undo() with dishes, nothing served", RefusedTest::cooks, x -> x.undo());
        no("undo() behind the last undo", () -> undone(), x -> x.undo());
        no("undo() behind court", () -> behind(x -> x.court(4)), x -> x.undo());
        no("undo() behind read", () -> behind(x -> Checks.readOnly(x, "court 4;")), x -> x.undo());
        no("undo() behind from of an image ahead of it", () -> behind(x -> x.from(1)), x -> x.undo());
    }

    private static DinnerPleas undone() {
        DinnerPleas x = cooksServed();
        for (int i = 0; i < 3; i++) {
            x.undo();
        }
        return x;
    }

    /** Courses are served, then something is asked by which they are gone. */
    private static DinnerPleas behind(ToLongFunction<DinnerPleas> asked) {
        DinnerPleas x = cooks();
        x.image(1);
        x.serve(0, 0);
        x.serve(1, 1);
        asked.applyAsLong(x);
        return x;
    }

    private static void noOfMenu() {
        c.begin("15 menu: NO: it is in it");
        no("the first one", Courts::midway, x -> x.menu(3));
        no("one between", Courts::midway, x -> x.menu(1));
        no("the last one", Courts::midway, x -> x.menu(5));
        for (int dish = 0; dish < 8; dish++) {
            int again = dish;
            no("menu(" + again + ") of a menu of all", Courts::full, x -> x.menu(again));
        }
    }

    private static void noOfFrom() {
        c.begin("33 from: NO: none was kept");
        no("from(0) of a new object", Courts::empty, x -> x.from(0));
        no("from(1) of a new object", Courts::empty, x -> x.from(1));
        no("from(1), 0 being kept", () -> kept(0), x -> x.from(1));
        no("from(0), 1 being kept", () -> kept(1), x -> x.from(0));
    }

    private static DinnerPleas kept(int image) {
        DinnerPleas x = cooksServed();
        x.image(image);
        x.court(1);
        return x;
    }

    private static void fullOnes() {
        c.begin("3 dish: FULL: 8");
        twins.refused("a 9th dish", Courts::full, x -> x.dish(0, 0, 1, 0, 0), FULL, Twins.FULL_COUNT);
        twins.refused("a 9th dish, none served", () -> served(0), x -> x.dish(5, 4, 9, 9, 2), FULL, Twins.FULL_COUNT);
        c.begin("6 type: FULL");
        twins.refused("a 151st byte", Courts::full, x -> x.type(59), FULL, Twins.FULL_COUNT);
        twins.refused("a 151st byte, 0", Courts::full, x -> x.type(0), FULL, Twins.FULL_COUNT);
        twins.refused("a 151st byte, 127", Courts::full, x -> x.type(127), FULL, Twins.FULL_COUNT);
        c.begin("24 reading: FULL: 6");
        twins.refused("a 7th reading", Courts::full, x -> x.reading(1, 2), FULL, Twins.FULL_COUNT);
        twins.refused("a 7th reading", Courts::full, x -> x.reading(0, 0), FULL, Twins.FULL_COUNT);
    }

    /** Answers below 0 that are not told as BAD, NO or FULL. */
    private static void noRefusals() {
        c.begin("8 read: -10 less the FAULT: all stays");
        twins.keeps("read() of no text", Courts::empty, x -> x.read(), -10);
        twins.keeps("a fault behind two items", () -> typed("court 1;dish 0 0 1 0 0;dish 6"), x -> x.read(), -10 - 28);
        twins.keeps("a fault at the last byte", () -> typed("court 1;more 0 0 1;dish 0 0 1 0 0;#"), x -> x.read(), -10 - 34);
        twins.keeps("too early an end", () -> typed("court 1;dish 0 0 1 0 0"), x -> x.read(), -10 - 22);
        c.begin("18 did: -5: not so many");
        twins.keeps("did(0, 0)", Courts::empty, x -> x.did(0, 0), -5);
        twins.keeps("did(0, 3)", Courts::midway, x -> x.did(0, 3), -5);
        twins.keeps("did(1, 8)", Courts::full, x -> x.did(1, 8), -5);
        twins.keeps("did(1, highest)", Courts::full, x -> x.did(1, HIGH), -5);
        c.begin("21 pardon: -5: not so many");
        twins.keeps("pardon(1, 0), for it already", Courts::midway, x -> x.pardon(1, 0), -5);
        twins.keeps("pardon(1, highest)", Courts::midway, x -> x.pardon(1, HIGH), -5);
        c.begin("21 pardon: NONE: none");
        twins.keeps("pardon(0, NONE)", Courts::empty, x -> x.pardon(0, -1), -1);
        twins.keeps("pardon(1, 0)", Courts::empty, x -> x.pardon(1, 0), -1);
        twins.keeps("pardon(1, highest)", Courts::empty, x -> x.pardon(1, HIGH), -1);
        c.begin("22 cancel: -5: not so many");
        twins.keeps("cancel(0)", Courts::empty, x -> x.cancel(0), -5);
        twins.keeps("cancel(highest)", Courts::full, x -> x.cancel(HIGH), -5);
        c.begin("23 undoes: NONE");
        twins.keeps("undoes(0)", Courts::empty, x -> x.undoes(0), -1);
        twins.keeps("undoes(1)", Courts::full, x -> x.undoes(1), -1);
    }

    /** Midway, but for the text. */
    private static DinnerPleas typed(String text) {
        DinnerPleas x = Courts.midway();
        x.clear();
        Checks.typeAll(x, text);
        return x;
    }

    private static void askingChangesNothing() {
        keepsEverywhere("11 of", x -> x.count(0) > 0 ? x.of(0, 6) : 0);
        keepsEverywhere("12 course", x -> x.count(2) > 0 ? x.course(0, 2) : 0);
        keepsEverywhere("13 leans", x -> x.leans());
        keepsEverywhere("14 verdict", x -> x.verdict());
        for (int s = 0; s < 2; s++) {
            int side = s;
            keepsEverywhere("17 comes", x -> x.comes(side));
            keepsEverywhere("18 did", x -> x.did(side, -1));
            keepsEverywhere("18 did", x -> x.did(side, 0));
            keepsEverywhere("19 play", x -> x.play(5, side));
            keepsEverywhere("20 first", x -> x.first(5, side));
            keepsEverywhere("21 pardon", x -> x.pardon(side, -1));
            keepsEverywhere("21 pardon", x -> x.pardon(side, 0));
            keepsEverywhere("22 cancel", x -> x.cancel(side - 1));
            keepsEverywhere("23 undoes", x -> x.undoes(side));
            keepsEverywhere("26 before", x -> x.before(side));
            keepsEverywhere("27 tells", x -> x.tells(side));
            keepsEverywhere("28 sure", x -> x.sure(side));
            keepsEverywhere("30 dinners", x -> x.dinners(999999 * side, 60));
            keepsEverywhere("31 part", x -> x.part(side));
            keepsEverywhere("34 status", x -> x.status(side));
            keepsEverywhere("35 count", x -> x.count(5 * side));
        }
        keepsEverywhere("34 status", x -> x.status(2));
        keepsEverywhere("36 digest", x -> x.digest());
    }

    private static void keepsEverywhere(String promise, ToLongFunction<DinnerPleas> asked) {
        c.begin(promise + ": nothing is changed by these");
        twins.keeps("the call, empty", Courts::empty, asked);
        twins.keeps("the call, midway", Courts::midway, asked);
        twins.keeps("the call, full", Courts::full, asked);
    }
}
