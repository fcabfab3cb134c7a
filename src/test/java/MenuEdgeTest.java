/**
 * The edges of what a menu, a play, a pardon, a pair and a single dish come to (promises 15 to 23): nothing there yet, as
 * many as may be, and what is right at the turning point. Each part's name tells the promise and the sentence.
 */
public final class MenuEdgeTest {
    private static final int NONE = DinnerPleas.NONE, HIGH = Integer.MAX_VALUE, NOT_SO_MANY = -5;
    private static final int[] ONES = {1, 1, 1, 1, 1, 1, 1, 1};
    private static final Checks c = new Checks();

    public static void main(String[] args) {
        emptyMenu();
        longestMenu();
        passedOver();
        passedOverAreNotLast();
        nothingDoneTakesTheTurn();
        whoeversCook();
        fromNowOn();
        playTurns();
        playBeyondTheDishes();
        playWithNothing();
        playOwnOrOfBoth();
        firstOfLikeOnes();
        noneIsBetter();
        playBeyondTheTold();
        pardonAlready();
        pardonRows();
        pardonNeedsMoreThanEquity();
        pardonOfLikeOnes();
        pardonMayServe();
        cancelPairs();
        cancelServed();
        cancelEitherWay();
        cancelCourses();
        undoesVerdicts();
        undoesOfLikeOnes();
        undoesMayServe();
        c.end();
    }

    private static void serveFirst(DinnerPleas x, int many, int side) {
        for (int i = 0; i < many; i++) {
            x.serve(i, side);
        }
    }

    // ---- promises 17 and 18

    private static void emptyMenu() {
        c.begin("17 comes, 18 did: THE MENU is empty");
        for (int lean = -30; lean <= 30; lean += 15) {
            DinnerPleas x = Courts.plain(ONES);
            x.lean(lean);
            for (int side = 0; side < 2; side++) {
                c.due("comes(" + side + ")", x.comes(side), lean);
                c.due("did(" + side + ", NONE)", x.did(side, NONE), lean > 0 ? 0 : lean < 0 ? 1 : 2);
                c.due("did(" + side + ", 0)", x.did(side, 0), NOT_SO_MANY);
            }
        }
    }

    private static void longestMenu() {
        c.begin("17 comes, 18 did: by turns, side s first; -5: not so many");
        for (int many = 1; many <= 8; many++) {
            DinnerPleas x = Courts.plain(1, 2, 3, 4, 5, 6, 7, 8);
            int due = 0;
            for (int i = 0; i < many; i++) {
                x.menu(i);
                due += i % 2 == 0 ? i + 1 : -(i + 1);
            }
            for (int i = 0; i < many; i++) {
                c.due("did(0, " + i + ") of " + many, x.did(0, i), i + 1);
                c.due("did(1, " + i + ") of " + many, x.did(1, i), i + 1);
            }
            c.due("did(0, " + many + ")", x.did(0, many), NOT_SO_MANY);
            c.due("did(1, highest)", x.did(1, HIGH), NOT_SO_MANY);
            c.due("comes(0) of " + many, x.comes(0), due);
            c.due("comes(1) of " + many, x.comes(1), -due);
            c.due("did(0, NONE) of " + many, x.did(0, NONE), due > 0 ? 0 : 1);
            c.due("did(1, NONE) of " + many, x.did(1, NONE), due > 0 ? 1 : 0);
        }
        DinnerPleas x = Courts.plain(4, 4);
        Courts.menuOf(x, 0, 1);
        c.due("equity", x.did(0, NONE), 2);
        x.lean(1);
        c.due("1 above", x.did(0, NONE), 0);
        x.lean(-1);
        c.due("1 below", x.did(0, NONE), 1);
        x.lean(30);
        Courts.menuOf(x, 0);
        c.due("beyond what may be told", x.comes(0), 34);
    }

    private static void passedOver() {
        c.begin("17 comes: those served already are passed over, the turn stays; 18 did: 0: passed over");
        int[] sums = {2 - 4 + 8, 1 - 4 + 8, 1 - 2 + 8, 1 - 2 + 4};
        for (int served = 0; served < 4; served++) {
            DinnerPleas x = Courts.plain(1, 2, 4, 8);
            x.serve(served, 0);
            x.lean(0);
            Courts.menuOf(x, 0, 1, 2, 3);
            c.due("comes(0), " + served + " being served", x.comes(0), sums[served]);
            c.due("comes(1), " + served + " being served", x.comes(1), -sums[served]);
            for (int i = 0; i < 4; i++) {
                c.due("did(1, " + i + "), " + served + " being served", x.did(1, i), i == served ? 0 : 1 << i);
            }
        }
        DinnerPleas x = Courts.plain(ONES);
        Courts.menuOf(x, 0, 1, 2, 3, 4, 5, 6, 7);
        serveFirst(x, 7, 0);
        c.due("all but the last: comes(0)", x.comes(0), 8);
        c.due("all but the last: comes(1)", x.comes(1), 6);
        c.due("did(0, 6)", x.did(0, 6), 0);
        c.due("did(0, 7)", x.did(0, 7), 1);
        x.serve(7, 0);
        c.due("all: comes(0)", x.comes(0), 8);
        c.due("all: comes(1)", x.comes(1), 8);
        c.due("all: did(0, NONE)", x.did(0, NONE), 0);
        for (int i = 0; i < 8; i++) {
            c.due("all: did(0, " + i + ")", x.did(0, i), 0);
        }
        c.due("all: did(0, 8)", x.did(0, 8), NOT_SO_MANY);
    }

    private static void passedOverAreNotLast() {
        c.begin("17 comes: one that is passed over is no COURSE");
        DinnerPleas x = new DinnerPleas();
        x.dish(0, 1, 5, 0, 2);
        x.dish(0, 2, 5, 0, 2);
        x.dish(2, 3, 5, 0, 2);
        x.book(1, 3, 3);
        x.book(2, 3, 1);
        x.serve(0, 0);
        x.serve(1, 1);
        Courts.menuOf(x, 0, 2);
        c.due("the last is dish 1, n is 2", x.did(0, 1), 5 + 2 + 1);
        c.due("comes(0)", x.comes(0), 8);
    }

    private static void nothingDoneTakesTheTurn() {
        c.begin("17 comes: one that does nothing is served all the same");
        DinnerPleas x = new DinnerPleas();
        x.dish(5, 0, 9, 0, 2);
        x.dish(2, 1, 4, 0, 2);
        x.book(0, 1, 2);
        Courts.menuOf(x, 0, 1);
        c.due("did(0, 0)", x.did(0, 0), 0);
        c.due("did(0, 1)", x.did(0, 1), 4 + 1 + 2);
        c.due("comes(0)", x.comes(0), -7);
        c.due("comes(1)", x.comes(1), 7);
    }

    private static void whoeversCook() {
        c.begin("17 comes: each DISH by whose turn it is, whoever's COOK");
        for (int cook = 0; cook <= 2; cook++) {
            DinnerPleas x = new DinnerPleas();
            x.dish(0, 0, 6, 0, cook);
            x.menu(0);
            c.due("comes(0) of " + cook, x.comes(0), 6);
            c.due("comes(1) of " + cook, x.comes(1), -6);
        }
    }

    private static void fromNowOn() {
        c.begin("17 comes: from now on");
        DinnerPleas x = new DinnerPleas();
        x.court(2);
        x.dish(0, 0, 1, 0, 2);
        x.dish(3, 0, 1, 0, 2);
        x.dish(3, 0, 1, 0, 2);
        x.dish(3, 0, 1, 0, 2);
        Courts.menuOf(x, 1, 2, 3);
        int[] atFirst = {3, 2, 1};
        int[] thereafter = {2, 1, 1};
        for (int i = 0; i < 3; i++) {
            c.due("did(0, " + i + ")", x.did(0, i), atFirst[i]);
        }
        x.serve(0, 0);
        for (int i = 0; i < 3; i++) {
            c.due("did(0, " + i + ") behind a course", x.did(0, i), thereafter[i]);
        }
    }

    // ---- promises 19 and 20

    private static void playTurns() {
        c.begin("19 play: PLAY of m (1 .. 5) turns, side s first");
        int[] sums = {0, 9, 9 - 8, 9 - 8 + 6, 9 - 8 + 6 - 3, 9 - 8 + 6 - 3 + 2};
        for (int m = 1; m <= 5; m++) {
            DinnerPleas x = Courts.plain(1, 2, 3, 6, 8, 9);
            x.lean(4);
            c.due("play(" + m + ", 0)", x.play(m, 0), 4 + sums[m]);
            c.due("play(" + m + ", 1)", x.play(m, 1), 4 - sums[m]);
            c.due("first(" + m + ", 0)", x.first(m, 0), 5);
            c.due("first(" + m + ", 1)", x.first(m, 1), 5);
            c.due("status(0)", x.status(0), 0);
        }
    }

    private static void playBeyondTheDishes() {
        c.begin("19 play: any DISH that was not served; more turns than DISHES");
        DinnerPleas x = Courts.plain(1, 1, 1, 1, 1, 1, 1, 7);
        c.due("the last dish first", x.first(5, 0), 7);
        c.due("play(5, 0)", x.play(5, 0), 7 - 1 + 1 - 1 + 1);
        serveFirst(x, 7, 0);
        for (int m = 1; m <= 5; m++) {
            c.due("play(" + m + ", 1), one being left", x.play(m, 1), 0);
            c.due("first(" + m + ", 1), one being left", x.first(m, 1), 7);
        }
        x.serve(7, 0);
        for (int m = 1; m <= 5; m++) {
            c.due("play(" + m + ", 1), none being left", x.play(m, 1), 14);
            c.due("first(" + m + ", 1), none being left", x.first(m, 1), 8);
        }
    }

    private static void playWithNothing() {
        c.begin("20 first: 8: none, there being no DISHES");
        for (int m = 1; m <= 5; m++) {
            DinnerPleas x = new DinnerPleas();
            x.lean(-30);
            for (int side = 0; side < 2; side++) {
                c.due("play(" + m + ", " + side + ")", x.play(m, side), -30);
                c.due("first(" + m + ", " + side + ")", x.first(m, side), 8);
            }
        }
    }

    private static void playOwnOrOfBoth() {
        c.begin("19 play: any DISH of its own or of both");
        for (int cook = 0; cook <= 2; cook++) {
            DinnerPleas x = new DinnerPleas();
            x.dish(0, 0, 6, 0, cook);
            c.due("play(1, 0) with one of " + cook, x.play(1, 0), cook == 1 ? 0 : 6);
            c.due("first(1, 0) with one of " + cook, x.first(1, 0), cook == 1 ? 8 : 0);
            c.due("play(1, 1) with one of " + cook, x.play(1, 1), cook == 0 ? 0 : -6);
            c.due("first(1, 1) with one of " + cook, x.first(1, 1), cook == 0 ? 8 : 0);
            c.due("play(2, 0) with one of " + cook, x.play(2, 0), cook == 1 ? -6 : 6);
            c.due("play(2, 1) with one of " + cook, x.play(2, 1), cook == 0 ? 6 : -6);
        }
    }

    private static void firstOfLikeOnes() {
        c.begin("20 first: by which it is so (the least)");
        DinnerPleas x = Courts.plain(2, 5, 5, 5);
        c.due("first(1, 0)", x.first(1, 0), 1);
        c.due("first(3, 1)", x.first(3, 1), 1);
        x.serve(1, 0);
        c.due("first(1, 0), dish 1 being served", x.first(1, 0), 2);
        DinnerPleas y = new DinnerPleas();
        y.dish(5, 0, 9, 0, 2);
        c.due("one that does nothing is less than none", y.first(1, 0), 0);
        c.due("and for side 1", y.first(1, 1), 0);
        DinnerPleas z = new DinnerPleas();
        z.dish(0, 0, 3, 0, 0);
        z.dish(0, 0, 3, 0, 0);
        z.dish(0, 0, 4, 0, 1);
        // With three turns side 0 serves both of its own, in whichever order.
        c.due("play(3, 0)", z.play(3, 0), 3 - 4 + 3);
        c.due("first(3, 0)", z.first(3, 0), 0);
    }

    private static void noneIsBetter() {
        c.begin("20 first: or none (no COURSE), where it is better than any DISH");
        DinnerPleas x = new DinnerPleas();
        x.dish(0, 0, 5, 0, 0);
        x.dish(1, 0, 5, 0, 1);
        // Serving first: 5 - 10; waiting: 0 - 5: both are -5, and the dish is the least.
        c.due("as good as none", x.first(2, 0), 0);
        c.due("play(2, 0)", x.play(2, 0), -5);
        DinnerPleas y = new DinnerPleas();
        y.dish(0, 0, 4, 0, 0);
        y.dish(1, 0, 5, 0, 1);
        c.due("one less than none", y.first(2, 0), 8);
        c.due("play(2, 0)", y.play(2, 0), -5);
        DinnerPleas z = new DinnerPleas();
        z.dish(0, 0, 6, 0, 0);
        z.dish(1, 0, 5, 0, 1);
        c.due("one more than none", z.first(2, 0), 0);
        c.due("play(2, 0)", z.play(2, 0), -4);
        c.begin("19 play: none is no COURSE: hunger and n stay");
        DinnerPleas w = new DinnerPleas();
        w.dish(3, 0, 1, 0, 1);
        c.due("bread, the other one having none", w.play(2, 0), -6);
        DinnerPleas v = new DinnerPleas();
        v.dish(2, 0, 1, 0, 1);
        c.due("a stew, the other one having none", v.play(2, 0), -1);
    }

    private static void playBeyondTheTold() {
        c.begin("19 play: how THE JUDGE LEANS at the end, beyond what may be told");
        DinnerPleas x = Courts.plain(9);
        x.lean(30);
        c.due("play(1, 0)", x.play(1, 0), 39);
        x.lean(-30);
        c.due("play(1, 1)", x.play(1, 1), -39);
    }

    // ---- promise 21

    private static void pardonIs(DinnerPleas x, int side, int butter, int... row) {
        c.due("pardon(" + side + ", NONE)", x.pardon(side, NONE), butter);
        for (int i = 0; i < row.length; i++) {
            c.due("pardon(" + side + ", " + i + ")", x.pardon(side, i), row[i]);
        }
        int beyond = butter == NONE ? NONE : NOT_SO_MANY;
        c.due("pardon(" + side + ", " + row.length + ")", x.pardon(side, row.length), beyond);
        c.due("pardon(" + side + ", highest)", x.pardon(side, HIGH), beyond);
    }

    private static void pardonAlready() {
        c.begin("21 pardon: VERDICT for s already: 0 BUTTER, no DISH");
        DinnerPleas x = Courts.plain(ONES);
        x.lean(1);
        pardonIs(x, 0, 0);
        x.lean(-1);
        pardonIs(x, 1, 0);
        x.lean(0);
        pardonIs(x, 0, 0, 0);
        pardonIs(x, 1, 0, 0);
        DinnerPleas y = new DinnerPleas();
        pardonIs(y, 0, NONE);
        pardonIs(y, 1, NONE);
        y.lean(1);
        pardonIs(y, 0, 0);
        pardonIs(y, 1, NONE);
        x.lean(1);
        serveFirst(x, 8, 0);
        pardonIs(x, 0, 0);
        pardonIs(x, 1, NONE);
    }

    private static void pardonRows() {
        c.begin("21 pardon: rows of 1 to 4 DISHES");
        int[][] rows = {{0}, {0, 1}, {0, 1, 2}, {0, 1, 2, 3}};
        for (int many = 1; many <= 4; many++) {
            DinnerPleas x = Courts.plain(ONES);
            x.lean(1 - many);
            pardonIs(x, 0, 0, rows[many - 1]);
            x.lean(many - 1);
            pardonIs(x, 1, 0, rows[many - 1]);
        }
        DinnerPleas x = Courts.plain(ONES);
        x.lean(-4);
        pardonIs(x, 0, NONE);
        x.lean(4);
        pardonIs(x, 1, NONE);
        DinnerPleas y = new DinnerPleas();
        for (int i = 0; i < 4; i++) {
            y.dish(0, 0, 9, 9, 0);
        }
        y.lean(-30);
        pardonIs(y, 0, 36, 0, 1, 2, 3);
    }

    private static void pardonNeedsMoreThanEquity() {
        c.begin("21 pardon: behind which VERDICT is for s");
        DinnerPleas x = Courts.plain(5);
        x.lean(-5);
        pardonIs(x, 0, NONE);
        x.lean(-4);
        pardonIs(x, 0, 0, 0);
        x.lean(5);
        pardonIs(x, 1, NONE);
        x.lean(4);
        pardonIs(x, 1, 0, 0);
    }

    private static void pardonOfLikeOnes() {
        c.begin("21 pardon: that of least BUTTER");
        DinnerPleas x = new DinnerPleas();
        x.dish(0, 0, 9, 5, 2);
        x.dish(0, 0, 3, 2, 2);
        x.dish(0, 0, 3, 2, 2);
        x.lean(-5);
        pardonIs(x, 0, 4, 1, 2);
        x.dish(0, 0, 9, 3, 2);
        pardonIs(x, 0, 3, 3);
        c.begin("21 pardon: of like ones the fewest DISHES");
        DinnerPleas y = new DinnerPleas();
        y.dish(0, 0, 3, 2, 2);
        y.dish(0, 0, 3, 2, 2);
        y.dish(0, 0, 9, 4, 2);
        y.lean(-5);
        pardonIs(y, 0, 4, 2);
        DinnerPleas v = new DinnerPleas();
        v.dish(0, 0, 9, 4, 2);
        v.dish(0, 0, 3, 2, 2);
        v.dish(0, 0, 3, 2, 2);
        v.lean(-5);
        pardonIs(v, 0, 4, 0);
        c.begin("21 pardon: then the first");
        DinnerPleas z = new DinnerPleas();
        z.dish(0, 0, 1, 1, 2);
        z.dish(0, 0, 4, 2, 2);
        z.dish(0, 0, 5, 2, 2);
        z.dish(0, 0, 4, 2, 2);
        z.lean(-3);
        pardonIs(z, 0, 2, 1);
        z.lean(-7);
        pardonIs(z, 0, 4, 1, 2);
        DinnerPleas w = new DinnerPleas();
        w.dish(1, 0, 4, 1, 2);
        w.dish(1, 0, 4, 1, 2);
        w.dish(0, 0, 5, 1, 2);
        w.lean(-10);
        // 4 + 8 by 0, 1 is ahead of 1, 0 and of 2, 0.
        pardonIs(w, 0, 2, 0, 1);
        w.lean(-12);
        pardonIs(w, 0, 2, 2, 0);
    }

    private static void pardonMayServe() {
        c.begin("21 pardon: DISHES that s may serve");
        for (int cook = 0; cook <= 2; cook++) {
            DinnerPleas x = new DinnerPleas();
            x.dish(0, 0, 6, 7, cook);
            if (cook == 1) {
                pardonIs(x, 0, NONE);
            } else {
                pardonIs(x, 0, 7, 0);
            }
            if (cook == 0) {
                pardonIs(x, 1, NONE);
            } else {
                pardonIs(x, 1, 7, 0);
            }
            x.serve(0, cook == 1 ? 1 : 0);
            x.lean(0);
            pardonIs(x, 0, NONE);
            pardonIs(x, 1, NONE);
        }
        c.begin("21 pardon: the other one serves none; from now on");
        DinnerPleas y = new DinnerPleas();
        y.court(2);
        y.dish(0, 1, 1, 0, 1);
        y.dish(3, 1, 1, 1, 0);
        y.dish(3, 1, 1, 1, 0);
        y.book(1, 1, 1);
        y.serve(0, 1);
        y.lean(-4);
        // 1 + 1 + 1, then 1 + 0 + 1.
        pardonIs(y, 0, 2, 1, 2);
        y.lean(-5);
        pardonIs(y, 0, NONE);
    }

    // ---- promise 22

    private static void cancelPairs() {
        c.begin("22 cancel: pairs i less than j: how many (k = NONE), the k-th (10 i and j); -5: not so many");
        for (int many = 0; many <= 8; many++) {
            DinnerPleas x = Courts.plain(ONES, many);
            c.due("cancel(NONE) of " + many, x.cancel(NONE), many * (many - 1) / 2);
            int k = 0;
            for (int i = 0; i < many; i++) {
                for (int j = i + 1; j < many; j++) {
                    c.due("cancel(" + k + ") of " + many, x.cancel(k), 10 * i + j);
                    k++;
                }
            }
            c.due("cancel(" + k + ") of " + many, x.cancel(k), NOT_SO_MANY);
            c.due("cancel(highest) of " + many, x.cancel(HIGH), NOT_SO_MANY);
        }
        c.begin("22 cancel: THE JUDGE LEANS as now behind both");
        DinnerPleas x = Courts.plain(3, 4, 5, 4);
        x.lean(-30);
        c.due("cancel(NONE)", x.cancel(NONE), 1);
        c.due("cancel(0)", x.cancel(0), 13);
        x.lean(30);
        c.due("cancel(NONE)", x.cancel(NONE), 1);
    }

    private static void cancelServed() {
        c.begin("22 cancel: none of both served");
        for (int served = 0; served < 3; served++) {
            DinnerPleas x = Courts.plain(2, 2, 2);
            x.serve(served, 1);
            int[] left = {12, 2, 1};
            c.due("cancel(NONE), " + served + " being served", x.cancel(NONE), 1);
            c.due("cancel(0), " + served + " being served", x.cancel(0), left[served]);
            c.due("cancel(1), " + served + " being served", x.cancel(1), NOT_SO_MANY);
        }
    }

    private static void cancelEitherWay() {
        c.begin("22 cancel: i by side 0 first or j by side 1 first, either way");
        DinnerPleas x = new DinnerPleas();
        x.dish(0, 1, 3, 0, 2);
        x.dish(0, 2, 3, 0, 2);
        c.due("both ways", x.cancel(NONE), 1);
        x.book(1, 2, 1);
        c.due("not if 0 is first", x.cancel(NONE), 0);
        x.book(1, 2, 0);
        x.book(2, 1, -1);
        c.due("not if 1 is first", x.cancel(NONE), 0);
        x.book(2, 1, 0);
        x.book(1, 1, 3);
        x.book(2, 2, 3);
        c.due("both ways again", x.cancel(0), 1);
        DinnerPleas y = new DinnerPleas();
        y.dish(2, 1, 3, 0, 2);
        y.dish(0, 2, 4, 0, 2);
        // The stew first: 3 - 4; behind: 4 - 4.
        c.due("one way alone", y.cancel(NONE), 0);
        c.begin("22 cancel: whoever's COOK");
        for (int cook = 0; cook < 9; cook++) {
            DinnerPleas z = new DinnerPleas();
            z.dish(0, 0, 3, 0, cook / 3);
            z.dish(0, 0, 3, 0, cook % 3);
            c.due("cooks " + cook / 3 + ", " + cook % 3, z.cancel(NONE), 1);
        }
        c.begin("22 cancel: from now on");
        DinnerPleas z = new DinnerPleas();
        z.dish(0, 0, 5, 0, 2);
        z.dish(0, 1, 3, 0, 2);
        z.dish(0, 2, 3, 0, 2);
        z.book(0, 1, 1);
        c.due("nothing ahead", z.cancel(0), 12);
        z.serve(0, 0);
        c.due("dish 0 ahead: 4 - 3, 3 - 3", z.cancel(NONE), 0);
        z.book(0, 2, 1);
        c.due("dish 0 ahead: 4 - 3, 4 - 3", z.cancel(NONE), 0);
        z.book(1, 2, 1);
        z.book(2, 1, 1);
        c.due("dish 0 ahead: 4 - 4, 4 - 4", z.cancel(0), 12);
    }

    private static void cancelCourses() {
        c.begin("22 cancel: no pairs, if there are more than 7 COURSES");
        int[] pairs = {28, 21, 15, 10, 6, 3, 1, 0, 0};
        for (int served = 0; served <= 8; served++) {
            DinnerPleas x = Courts.plain(ONES);
            serveFirst(x, served, 0);
            c.due("cancel(NONE) behind " + served, x.cancel(NONE), pairs[served]);
            c.due("the last pair behind " + served, x.cancel(pairs[served] - 1), pairs[served] > 0 ? 67 : 0);
            c.due("one more behind " + served, x.cancel(pairs[served]), NOT_SO_MANY);
        }
    }

    // ---- promise 23

    private static void undoesVerdicts() {
        c.begin("23 undoes: by which VERDICT is another one than now");
        int[] leans = {-6, -5, -4, -1, 0, 1, 4, 5, 6};
        int[] bySide0 = {NONE, 0, 0, 0, 0, NONE, NONE, NONE, NONE};
        int[] bySide1 = {NONE, NONE, NONE, NONE, 0, 0, 0, 0, NONE};
        for (int i = 0; i < leans.length; i++) {
            DinnerPleas x = Courts.plain(5);
            x.lean(leans[i]);
            c.due("undoes(0), leaning " + leans[i], x.undoes(0), bySide0[i]);
            c.due("undoes(1), leaning " + leans[i], x.undoes(1), bySide1[i]);
        }
        DinnerPleas x = new DinnerPleas();
        c.due("no dishes", x.undoes(0), NONE);
        x.dish(5, 0, 9, 0, 2);
        c.due("one that does nothing", x.undoes(0), NONE);
        c.due("one that does nothing", x.undoes(1), NONE);
    }

    private static void undoesOfLikeOnes() {
        c.begin("23 undoes: of like ones the one of least BUTTER, then the first");
        DinnerPleas x = new DinnerPleas();
        int[] butters = {9, 5, 3, 3, 4, 0};
        for (int butter : butters) {
            x.dish(0, 0, butter == 0 ? 1 : 5, butter, 2);
        }
        x.lean(-4);
        c.due("undoes(0)", x.undoes(0), 2);
        x.serve(2, 0);
        x.lean(-4);
        c.due("undoes(0), dish 2 being served", x.undoes(0), 3);
        x.lean(-1);
        c.due("undoes(0), one without butter does", x.undoes(0), 5);
        DinnerPleas y = Courts.plain(ONES);
        c.due("all alike", y.undoes(1), 0);
        serveFirst(y, 7, 0);
        y.lean(0);
        c.due("the last one left", y.undoes(1), 7);
        y.serve(7, 0);
        y.lean(0);
        c.due("none left", y.undoes(1), NONE);
    }

    private static void undoesMayServe() {
        c.begin("23 undoes: the DISH (not served) that side s may serve now");
        for (int cook = 0; cook <= 2; cook++) {
            DinnerPleas x = new DinnerPleas();
            x.dish(0, 0, 6, 0, cook);
            c.due("undoes(0) with one of " + cook, x.undoes(0), cook == 1 ? NONE : 0);
            c.due("undoes(1) with one of " + cook, x.undoes(1), cook == 0 ? NONE : 0);
            x.serve(0, cook == 1 ? 1 : 0);
            x.lean(0);
            c.due("undoes(0), served", x.undoes(0), NONE);
            c.due("undoes(1), served", x.undoes(1), NONE);
        }
    }
}
