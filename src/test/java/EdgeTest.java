import java.util.function.Supplier;
import java.util.function.ToLongFunction;

/**
 * The edges that the document names, on the side where the call is taken: the least and the most that may be told,
 * nothing there yet, as many as may be, and what happens right at a turning point. Each part's name tells the promise and
 * the sentence; RefusedTest has the other side, ReadEdgeTest the text. (9 courses can not come about with 8 dishes.)
 */
public final class EdgeTest {
    private static final int NONE = DinnerPleas.NONE, NO = DinnerPleas.NO;
    private static final int HIGH = Integer.MAX_VALUE;
    private static final int[] ONES = {1, 1, 1, 1, 1, 1, 1, 1};
    private static final Checks c = new Checks();
    private static final Twins twins = new Twins(c);

    public static void main(String[] args) {
        atFirst();
        objectsAreApart();
        lastCall();
        hungerTold();
        courtAnew();
        dishNumbers();
        dishesAsMany();
        bookNumbers();
        bookAtFirst();
        leanNumbers();
        leanBeyondTheTold();
        typeBytes();
        clearText();
        serveByCooks();
        didAtLeastNothing();
        nothingAhead();
        sauce();
        stew();
        bread();
        glaze();
        cheese();
        hungerGoes();
        undoOneByOne();
        undoLean();
        ofDish();
        courses();
        verdicts();
        menus();
        c.end();
    }

    /** Taken with the least and the most that may be told, and no refusal. */
    private static void taken(String call, Supplier<DinnerPleas> maker, ToLongFunction<DinnerPleas> asked, long answer) {
        DinnerPleas x = maker.get();
        int[] was = {x.status(0), x.status(1), x.status(2)};
        c.due(call, asked.applyAsLong(x), answer);
        for (int what = 0; what < 3; what++) {
            c.due("status(" + what + ") behind " + call, x.status(what), was[what]);
        }
    }

    // ---- promise 1, and the last call

    private static void atFirst() {
        c.begin("1 a new object: as told; no DISHES");
        c.due("NONE", NONE, -1);
        c.due("BAD", DinnerPleas.BAD, -2);
        c.due("NO", NO, -3);
        c.due("FULL", DinnerPleas.FULL, -4);
        taken("count(0)", Courts::empty, x -> x.count(0), 0);
        taken("count(1): HUNGRY 5 at first", Courts::empty, x -> x.count(1), 5);
        taken("count(2): COURSES none at first", Courts::empty, x -> x.count(2), 0);
        taken("count(3)", Courts::empty, x -> x.count(3), 0);
        taken("count(4)", Courts::empty, x -> x.count(4), 0);
        taken("count(5)", Courts::empty, x -> x.count(5), 0);
        taken("leans(): 0 at first", Courts::empty, x -> x.leans(), 0);
        taken("verdict()", Courts::empty, x -> x.verdict(), 2);
        taken("part(0): THE FRACTION is 0 by 1 at first", Courts::empty, x -> x.part(0), 0);
        taken("part(1): THE FRACTION is 0 by 1 at first", Courts::empty, x -> x.part(1), 1);
        for (int what = 0; what < 3; what++) {
            c.due("status(" + what + ")", new DinnerPleas().status(what), 0);
        }
    }

    private static void objectsAreApart() {
        c.begin("1 a new object: as told, also behind another one that is full");
        DinnerPleas first = new DinnerPleas();
        Courts.full();
        Courts.midway().count(99);
        twins.same("in two new objects", first, new DinnerPleas());
        c.due("status(0)", new DinnerPleas().status(0), 0);
    }

    private static void lastCall() {
        c.begin("an object is used for at most 512 calls");
        DinnerPleas x = new DinnerPleas();
        x.dish(0, 0, 7, 0, 2);
        for (int call = 1; call < 511; call++) {
            x.count(6);
        }
        c.due("the 512th: status(0)", x.status(0), 510);
        DinnerPleas y = new DinnerPleas();
        y.dish(0, 0, 7, 0, 2);
        for (int call = 1; call < 511; call += 2) {
            y.serve(0, 1);
            y.undo();
        }
        c.due("the 512th: serve(0, 1)", y.serve(0, 1), 7);
    }

    // ---- promises 2 to 7

    private static void hungerTold() {
        c.begin("2 court: HUNGER 0 .. 9");
        for (int h = 0; h <= 9; h++) {
            int hunger = h;
            taken("court(" + h + ")", Courts::empty, x -> x.court(hunger), 0);
            DinnerPleas x = new DinnerPleas();
            x.court(h);
            c.due("count(1) behind court(" + h + ")", x.count(1), h);
        }
    }

    private static void courtAnew() {
        c.begin("2 court: how many DISHES there were");
        for (int many = 0; many <= 8; many++) {
            int dishes = many;
            taken("court(0) of " + many, () -> Courts.plain(ONES, dishes), x -> x.court(0), dishes);
        }
        c.begin("2 court: all else as at first (but for IMAGES, THE TEXT, THE FRACTION, STATUS)");
        DinnerPleas x = Courts.full();
        long above = x.part(0);
        long below = x.part(1);
        x.count(6);
        x.undo();
        x.from(0);
        x.dish(0, 0, 1, 0, 0);
        c.due("court(5)", x.court(5), 8);
        c.due("the digest but for the text and the fraction", x.digest(), atFirstBut(150, above, below));
        c.holds("the fraction is another one than at first", above != 0 && below != 1);
        c.due("undo()", x.undo(), NO);
        c.due("status(0)", x.status(0), 1);
        c.due("status(1)", x.status(1), 1);
        c.due("status(2)", x.status(2), 1);
        c.due("the text", x.read(), 5);
        c.due("image 0 with all courses", x.from(0), 1);
        c.due("count(2)", x.count(2), 8);
        c.due("image 1 with none", x.from(1), 1);
        c.due("count(2)", x.count(2), 0);
        c.due("count(0)", x.count(0), 8);
    }

    private static long atFirstBut(int bytes, long above, long below) {
        long[] values = new long[6 + 1 + 25 + 2];
        values[1] = 5;
        values[5] = bytes;
        values[32] = above;
        values[33] = below;
        return Checks.digestOf(values);
    }

    private static void dishNumbers() {
        int[] least = {0, 0, 1, 0, 0};
        int[] most = {5, 4, 9, 9, 2};
        String[] names = {"KIND 0 .. 5", "TASTE 0 .. 4", "FORCE 1 .. 9", "BUTTER 0 .. 9", "COOK 0 .. 2"};
        for (int column = 0; column < 5; column++) {
            c.begin("3 dish: " + names[column]);
            for (int n = least[column]; n <= most[column]; n++) {
                int[] low = least.clone();
                int[] high = most.clone();
                low[column] = n;
                high[column] = n;
                dishTaken(low);
                dishTaken(high);
            }
        }
    }

    private static void dishTaken(int[] d) {
        String call = "dish(" + d[0] + ", " + d[1] + ", " + d[2] + ", " + d[3] + ", " + d[4] + ")";
        taken(call, Courts::empty, x -> x.dish(d[0], d[1], d[2], d[3], d[4]), 0);
        DinnerPleas x = new DinnerPleas();
        x.dish(d[0], d[1], d[2], d[3], d[4]);
        for (int what = 0; what < 5; what++) {
            c.due("of(0, " + what + ") behind " + call, x.of(0, what), d[what]);
        }
    }

    private static void dishesAsMany() {
        c.begin("3 dish: DISHES 0 .. 7, as they come: its number");
        for (int many = 0; many < 8; many++) {
            int next = many;
            taken("dish, there being " + many, () -> Courts.plain(ONES, next), x -> x.dish(5, 4, 9, 9, 2), next);
        }
        DinnerPleas x = new DinnerPleas();
        for (int i = 0; i < 8; i++) {
            x.dish(i % 6, i % 5, 1 + i, 9 - i, i % 3);
        }
        for (int i = 0; i < 8; i++) {
            int[] row = {i % 6, i % 5, 1 + i, 9 - i, i % 3};
            for (int what = 0; what < 5; what++) {
                c.due("of(" + i + ", " + what + ")", x.of(i, what), row[what]);
            }
        }
        x.serve(0, 0);
        x.court(5);
        c.due("the first behind court is 0 again", x.dish(0, 0, 1, 0, 0), 0);
        c.due("and not served", x.of(0, 5), 0);
    }

    private static void bookNumbers() {
        c.begin("4 book: TASTES 0 .. 4");
        for (int k = 0; k < 25; k++) {
            int a = k / 5;
            int b = k % 5;
            taken("book(" + a + ", " + b + ", 3)", Courts::empty, x -> x.book(a, b, 3), 0);
        }
        c.begin("4 book: a number -3 .. 3: what it told (it may be below 0)");
        DinnerPleas x = new DinnerPleas();
        int was = 0;
        for (int n = -3; n <= 3; n++) {
            c.due("book(4, 0, " + n + ")", x.book(4, 0, n), was);
            was = n;
        }
        c.due("book(4, 0, -3)", x.book(4, 0, -3), 3);
        c.due("book(4, 0, -3)", x.book(4, 0, -3), -3);
        c.due("a ahead and b behind: book(0, 4, 1)", x.book(0, 4, 1), 0);
        for (int what = 0; what < 3; what++) {
            c.due("status(" + what + ")", x.status(what), 0);
        }
    }

    private static void bookAtFirst() {
        c.begin("4 book: 0 at first, each two of its own");
        DinnerPleas x = new DinnerPleas();
        for (int k = 0; k < 25; k++) {
            c.due("book(" + k / 5 + ", " + k % 5 + ", ..)", x.book(k / 5, k % 5, k % 7 - 3), 0);
        }
        for (int k = 0; k < 25; k++) {
            c.due("book(" + k / 5 + ", " + k % 5 + ", 0)", x.book(k / 5, k % 5, 0), k % 7 - 3);
        }
    }

    private static void leanNumbers() {
        c.begin("5 lean: -30 .. 30 told: how it was (it may be below 0)");
        DinnerPleas x = new DinnerPleas();
        int was = 0;
        for (int n = -30; n <= 30; n++) {
            c.due("lean(" + n + ")", x.lean(n), was);
            c.due("leans()", x.leans(), n);
            was = n;
        }
        c.due("lean(-30)", x.lean(-30), 30);
        c.due("status(0)", x.status(0), 0);
    }

    private static void leanBeyondTheTold() {
        c.begin("5 lean: how it was, beyond what may be told");
        DinnerPleas x = Courts.plain(1, 9);
        x.lean(30);
        x.serve(0, 0);
        c.due("lean(-30)", x.lean(-30), 31);
        x.serve(1, 1);
        c.due("leans()", x.leans(), -39);
        c.due("lean(0)", x.lean(0), -39);
    }

    private static void typeBytes() {
        c.begin("6 type: a byte 0 .. 127 comes behind THE TEXT: how many it has");
        DinnerPleas x = new DinnerPleas();
        for (int b = 0; b <= 127; b++) {
            c.due("type(" + b + ")", x.type(b), b + 1);
        }
        c.due("status(0)", x.status(0), 0);
        c.begin("6 type: 150 bytes at most");
        for (int many = 129; many <= 150; many++) {
            c.due("the byte " + many, x.type(127), many);
        }
        c.due("status(2)", x.status(2), 0);
        c.due("the byte 151", x.type(127), DinnerPleas.FULL);
        c.due("status(2)", x.status(2), 1);
        c.due("count(5)", x.count(5), 150);
    }

    private static void clearText() {
        c.begin("7 clear: THE TEXT is empty: how many it had");
        taken("clear() of none", Courts::empty, x -> x.clear(), 0);
        taken("clear() of 1", () -> typed("a"), x -> x.clear(), 1);
        taken("clear() of 149", () -> typed(" ".repeat(149)), x -> x.clear(), 149);
        taken("clear() of 150", () -> typed(" ".repeat(150)), x -> x.clear(), 150);
        DinnerPleas x = Courts.full();
        long above = x.part(0);
        x.clear();
        c.due("count(5)", x.count(5), 0);
        c.due("clear() again", x.clear(), 0);
        c.due("nothing else: count(0)", x.count(0), 8);
        c.due("nothing else: count(2)", x.count(2), 8);
        c.due("nothing else: part(0)", x.part(0), above);
        c.due("type(0)", x.type(0), 1);
        DinnerPleas y = typed("court 5;");
        y.clear();
        c.due("the old bytes are gone", y.read(), -10);
        Checks.typeAll(y, "cour");
        c.due("the old bytes do not come back", y.read(), -10);
    }

    private static DinnerPleas typed(String text) {
        DinnerPleas x = new DinnerPleas();
        Checks.typeAll(x, text);
        return x;
    }

    // ---- promises 9 to 14

    private static void serveByCooks() {
        c.begin("9 serve: by its COOK's side (one of both by any)");
        for (int cook = 0; cook <= 2; cook++) {
            for (int side = 0; side <= 1; side++) {
                int whose = cook;
                int by = side;
                boolean may = cook == 2 || cook == side;
                Supplier<DinnerPleas> one = () -> oneDish(0, 3, whose);
                if (may) {
                    taken("a dish of " + cook + " by " + side, one, x -> x.serve(0, by), 3);
                } else {
                    twins.refused("a dish of " + cook + " by " + side, one, x -> x.serve(0, by), NO, Twins.NO_COUNT);
                }
                DinnerPleas x = oneDish(0, 3, cook);
                x.serve(0, side);
                c.due("leans()", x.leans(), !may ? 0 : side == 0 ? 3 : -3);
                c.due("count(2)", x.count(2), may ? 1 : 0);
            }
        }
        c.begin("9 serve: COURSES, as many as there are DISHES");
        DinnerPleas x = Courts.plain(ONES);
        for (int i = 7; i >= 0; i--) {
            c.due("serve(" + i + ", 0)", x.serve(i, 0), 1);
            c.due("count(2)", x.count(2), 8 - i);
        }
        c.due("leans()", x.leans(), 8);
    }

    private static DinnerPleas oneDish(int kind, int force, int cook) {
        DinnerPleas x = new DinnerPleas();
        x.dish(kind, 0, force, 0, cook);
        return x;
    }

    private static void didAtLeastNothing() {
        c.begin("9 serve: POWER and THE BOOK, both together, 0 at least");
        for (int told = -3; told <= 3; told++) {
            for (int force = 1; force <= 4; force++) {
                DinnerPleas x = new DinnerPleas();
                x.dish(0, 1, 1, 0, 2);
                x.dish(0, 2, force, 0, 2);
                x.book(1, 2, told);
                x.book(2, 1, 1);
                x.serve(0, 0);
                int due = Math.max(0, force + told);
                c.due("of(1, 6) by " + force + " and " + told, x.of(1, 6), due);
                c.due("serve(1, 1) by " + force + " and " + told, x.serve(1, 1), due);
                c.due("course(1, 2)", x.course(1, 2), due);
                c.due("leans()", x.leans(), 1 - due);
            }
        }
    }

    private static void nothingAhead() {
        c.begin("9 serve: THE BOOK with nothing ahead (none: 0)");
        for (int taste = 0; taste < 5; taste++) {
            DinnerPleas x = new DinnerPleas();
            x.dish(0, taste, 4, 0, 2);
            for (int k = 0; k < 25; k++) {
                x.book(k / 5, k % 5, 3);
            }
            c.due("of(0, 6) of taste " + taste, x.of(0, 6), 4);
            c.due("serve(0, 0)", x.serve(0, 0), 4);
        }
    }

    /** A dish of the kind behind a plain one, by side 0 both. */
    private static DinnerPleas behindPlain(int kind, int taste, int cook, int cookAhead) {
        DinnerPleas x = new DinnerPleas();
        x.dish(0, 1, 1, 0, cookAhead);
        x.dish(kind, taste, 5, 0, cook);
        x.serve(0, cookAhead == 1 ? 1 : 0);
        return x;
    }

    private static void sauce() {
        c.begin("9 serve: SAUCE: twice PLAIN, if the last DISH has its TASTE, else as PLAIN");
        c.due("nothing ahead", oneDish(1, 5, 2).of(0, 6), 5);
        c.due("behind its taste", behindPlain(1, 1, 2, 2).of(1, 6), 10);
        c.due("behind the taste one less", behindPlain(1, 2, 2, 2).of(1, 6), 5);
        c.due("behind the taste one more", behindPlain(1, 0, 2, 2).of(1, 6), 5);
        c.due("of another cook, no more", behindPlain(1, 1, 1, 0).of(1, 6), 10);
        DinnerPleas x = new DinnerPleas();
        x.dish(0, 1, 1, 0, 2);
        x.dish(0, 2, 1, 0, 2);
        x.dish(1, 1, 5, 0, 2);
        x.serve(0, 0);
        x.serve(1, 0);
        c.due("its taste was the last but one's", x.of(2, 6), 5);
        DinnerPleas y = behindPlain(1, 1, 2, 2);
        y.book(1, 1, -3);
        c.due("the book is told once: 2 x 5 - 3", y.of(1, 6), 7);
    }

    private static void stew() {
        c.begin("9 serve: STEW: as PLAIN and n");
        for (int n = 0; n <= 7; n++) {
            DinnerPleas x = Courts.plain(ONES, 7);
            x.dish(2, 1, 5, 0, 2);
            for (int i = 0; i < n; i++) {
                x.serve(i, 0);
            }
            c.due("of(7, 6) behind " + n, x.of(7, 6), 5 + n);
            c.due("serve(7, 1) behind " + n, x.serve(7, 1), 5 + n);
        }
    }

    private static void bread() {
        c.begin("9 serve: BREAD: as PLAIN and how HUNGRY THE JUDGE is (ahead of this COURSE; 0 at least)");
        for (int hunger = 0; hunger <= 9; hunger++) {
            for (int n = 0; n <= 7; n++) {
                DinnerPleas x = new DinnerPleas();
                x.court(hunger);
                for (int i = 0; i < 7; i++) {
                    x.dish(0, 0, 1, 0, 2);
                }
                x.dish(3, 1, 5, 0, 2);
                for (int i = 0; i < n; i++) {
                    x.serve(i, 0);
                }
                int hungry = Math.max(0, hunger - n);
                c.due("of(7, 6), told " + hunger + ", behind " + n, x.of(7, 6), 5 + hungry);
                c.due("serve(7, 1), told " + hunger + ", behind " + n, x.serve(7, 1), 5 + hungry);
            }
        }
    }

    private static void glaze() {
        c.begin("9 serve: GLAZE: as SAUCE; and 3 more, if the last DISH is of another COOK");
        for (int cook = 0; cook <= 2; cook++) {
            c.due("nothing ahead, of " + cook, oneDish(4, 5, cook).of(0, 6), 5);
            for (int ahead = 0; ahead <= 2; ahead++) {
                int more = cook == ahead ? 0 : 3;
                c.due("its taste, of " + cook + " behind " + ahead, behindPlain(4, 1, cook, ahead).of(1, 6), 10 + more);
                c.due("another, of " + cook + " behind " + ahead, behindPlain(4, 2, cook, ahead).of(1, 6), 5 + more);
            }
        }
        DinnerPleas x = new DinnerPleas();
        x.dish(0, 1, 1, 0, 2);
        x.dish(4, 2, 5, 0, 2);
        x.serve(0, 0);
        c.due("another side, the same cook", x.serve(1, 1), 5);
    }

    private static void cheese() {
        c.begin("9 serve: CHEESE: as STEW, if 4 COURSES or more were served, else 0");
        for (int n = 0; n <= 7; n++) {
            DinnerPleas x = Courts.plain(ONES, 7);
            x.dish(5, 1, 5, 0, 2);
            for (int i = 0; i < n; i++) {
                x.serve(i, 0);
            }
            int due = n >= 4 ? 5 + n : 0;
            c.due("of(7, 6) behind " + n, x.of(7, 6), due);
            x.book(0, 1, 2);
            c.due("and the book, behind " + n, x.of(7, 6), due + (n > 0 ? 2 : 0));
            x.book(0, 1, -1);
            c.due("less by the book, behind " + n, x.of(7, 6), Math.max(0, due - (n > 0 ? 1 : 0)));
            c.due("serve(7, 1) behind " + n, x.serve(7, 1), Math.max(0, due - (n > 0 ? 1 : 0)));
        }
    }

    private static void hungerGoes() {
        c.begin("9 serve: as HUNGRY as told, at each COURSE 1 less (0 at least)");
        for (int hunger = 0; hunger <= 9; hunger++) {
            DinnerPleas x = new DinnerPleas();
            x.court(hunger);
            for (int i = 0; i < 8; i++) {
                x.dish(0, 0, 1, 0, 2);
            }
            for (int n = 0; n < 8; n++) {
                c.due("count(1), told " + hunger + ", behind " + n, x.count(1), Math.max(0, hunger - n));
                x.serve(n, 0);
            }
            c.due("count(1), told " + hunger + ", behind 8", x.count(1), Math.max(0, hunger - 8));
            for (int n = 7; n >= 0; n--) {
                x.undo();
                c.due("count(1), told " + hunger + ", undone to " + n, x.count(1), Math.max(0, hunger - n));
            }
        }
    }

    private static void undoOneByOne() {
        c.begin("10 undo: how many COURSES there are then");
        DinnerPleas x = Courts.plain(1, 2, 3, 4, 5, 6, 7, 8);
        long[] digests = new long[9];
        for (int i = 0; i < 8; i++) {
            digests[i] = x.digest();
            x.serve(i, i % 2);
        }
        for (int left = 7; left >= 0; left--) {
            c.due("undo() to " + left, x.undo(), left);
            c.due("all as ahead of it", x.digest(), digests[left]);
            c.due("of(" + left + ", 5)", x.of(left, 5), 0);
        }
        c.due("undo() of none", x.undo(), NO);
        c.due("status(1)", x.status(1), 1);
        for (int i = 0; i < 8; i++) {
            c.due("each may be served again", x.serve(7 - i, 0), 8 - i);
        }
    }

    private static void undoLean() {
        c.begin("10 undo: how THE JUDGE LEANS as ahead of the last one served");
        DinnerPleas x = Courts.plain(9, 9, 1);
        x.lean(30);
        x.serve(0, 0);
        x.lean(-30);
        x.serve(1, 1);
        c.due("leans()", x.leans(), -39);
        x.lean(12);
        x.book(0, 0, 3);
        x.menu(2);
        c.due("undo()", x.undo(), 1);
        c.due("leans()", x.leans(), -30);
        c.due("undo()", x.undo(), 0);
        c.due("leans()", x.leans(), 30);
        c.due("nothing else: book(0, 0, 0)", x.book(0, 0, 0), 3);
        c.due("nothing else: count(3)", x.count(3), 1);
        c.due("nothing else: count(0)", x.count(0), 3);
    }

    private static void ofDish() {
        c.begin("11 of: whether it was served (5; 1, 0)");
        DinnerPleas x = Courts.plain(ONES);
        for (int dish = 0; dish < 8; dish++) {
            c.due("of(" + dish + ", 5)", x.of(dish, 5), 0);
            x.serve(dish, 1);
            c.due("of(" + dish + ", 5), served", x.of(dish, 5), 1);
        }
        c.begin("11 of: what it would DO now (6; of one that was served, too, the last COURSE being what it is)");
        DinnerPleas y = new DinnerPleas();
        y.dish(1, 0, 3, 0, 2);
        y.dish(2, 1, 3, 0, 2);
        y.dish(3, 2, 3, 0, 2);
        y.book(0, 0, 1);
        y.book(1, 1, 2);
        y.book(1, 0, -1);
        y.serve(0, 0);
        c.due("a sauce behind itself", y.of(0, 6), 7);
        y.serve(1, 1);
        c.due("a stew behind itself", y.of(1, 6), 3 + 2 + 2);
        c.due("a sauce that was served, not the last", y.of(0, 6), 2);
        y.serve(2, 0);
        c.due("bread behind itself", y.of(2, 6), 3 + 2);
        DinnerPleas z = oneDish(0, 8, 1);
        c.due("side 1's", z.of(0, 6), 8);
    }

    private static void courses() {
        c.begin("12 course: the i-th COURSE: the DISH (0), by which side (1), what it DID (2)");
        DinnerPleas x = Courts.plain(1, 2, 3, 4, 5, 6, 7, 8);
        for (int i = 0; i < 8; i++) {
            x.serve(7 - i, (i + 1) % 2);
        }
        for (int i = 0; i < 8; i++) {
            c.due("course(" + i + ", 0)", x.course(i, 0), 7 - i);
            c.due("course(" + i + ", 1)", x.course(i, 1), (i + 1) % 2);
            c.due("course(" + i + ", 2)", x.course(i, 2), 8 - i);
        }
        c.due("status(0)", x.status(0), 0);
        x.book(0, 0, 3);
        c.due("what it did stays, whatever the book tells since", x.course(7, 2), 1);
    }

    private static void verdicts() {
        c.begin("14 verdict: 0, if THE JUDGE LEANS above 0, 1, if below; 2 EQUITY");
        int[] leans = {-30, -1, 0, 1, 30};
        int[] verdicts = {1, 1, 2, 0, 0};
        for (int i = 0; i < leans.length; i++) {
            DinnerPleas x = new DinnerPleas();
            x.lean(leans[i]);
            c.due("leans()", x.leans(), leans[i]);
            c.due("verdict() of " + leans[i], x.verdict(), verdicts[i]);
        }
        DinnerPleas x = Courts.plain(4, 4, 1);
        x.serve(0, 1);
        c.due("verdict()", x.verdict(), 1);
        x.serve(1, 0);
        c.due("verdict()", x.verdict(), 2);
        x.serve(2, 0);
        c.due("verdict()", x.verdict(), 0);
        c.due("leans()", x.leans(), 1);
    }

    // ---- promises 15 and 16

    private static void menus() {
        c.begin("15 menu: a DISH behind THE MENU: how many it has");
        DinnerPleas x = Courts.plain(ONES);
        for (int i = 0; i < 8; i++) {
            c.due("menu(" + (7 - i) + ")", x.menu(7 - i), i + 1);
        }
        c.due("status(1)", x.status(1), 0);
        c.begin("16 wipe: THE MENU is empty: how many it had");
        c.due("wipe() of 8", x.wipe(), 8);
        c.due("wipe() of none", x.wipe(), 0);
        c.due("count(3)", x.count(3), 0);
        c.due("each may be in it again", x.menu(7), 1);
        c.due("wipe() of 1", x.wipe(), 1);
        c.due("status(1)", x.status(1), 0);
        c.due("did(0, highest)", x.did(0, HIGH), -5);
    }
}
