/** Each promise of the document by hand: ordinary inputs, its edges, wrong inputs. */
public final class PromiseTest {
    private static final int NONE = DinnerPleas.NONE, BAD = DinnerPleas.BAD, NO = DinnerPleas.NO, FULL = DinnerPleas.FULL;
    private static final int LOW = Integer.MIN_VALUE, HIGH = Integer.MAX_VALUE;
    private static final Checks c = new Checks();

    public static void main(String[] args) {
        newObject();
        court();
        dish();
        book();
        lean();
        typeAndClear();
        readItems();
        readFaults();
        readTakesPlace();
        serveByKinds();
        serveRefused();
        hunger();
        undo();
        of();
        course();
        leansAndVerdict();
        menuAndWipe();
        comesAndDid();
        comesPassesOver();
        playAndFirst();
        playPasses();
        pardon();
        pardonOrder();
        cancel();
        undoes();
        readingAndForget();
        before();
        tells();
        sure();
        burntAndPart();
        dinners();
        images();
        status();
        count();
        digest();
        c.end();
    }

    private static void newObject() {
        c.begin("1 a new object");
        c.due("NONE", NONE, -1);
        c.due("BAD", BAD, -2);
        c.due("NO", NO, -3);
        c.due("FULL", FULL, -4);
        DinnerPleas x = new DinnerPleas();
        int[] counts = {0, 5, 0, 0, 0, 0};
        for (int what = 0; what < counts.length; what++) {
            c.due("count(" + what + ")", x.count(what), counts[what]);
        }
        c.due("leans()", x.leans(), 0);
        c.due("verdict()", x.verdict(), 2);
        c.due("part(0)", x.part(0), 0);
        c.due("part(1)", x.part(1), 1);
        for (int what = 0; what < 3; what++) {
            c.due("status(" + what + ")", x.status(what), 0);
        }
        long[] values = new long[6 + 1 + 25 + 2];
        values[1] = 5;
        values[values.length - 1] = 1;
        c.due("digest()", x.digest(), Checks.digestOf(values));
        c.due("undo()", x.undo(), NO);
        c.due("from(0)", x.from(0), NO);
        c.due("from(1)", x.from(1), NO);
    }

    private static void court() {
        c.begin("2 court");
        DinnerPleas x = Courts.sixKinds();
        c.due("court(-1)", x.court(-1), BAD);
        c.due("court(10)", x.court(10), BAD);
        c.due("court(lowest)", x.court(LOW), BAD);
        c.due("count(0) behind BAD", x.count(0), 6);
        x.book(1, 2, 3);
        x.lean(7);
        x.serve(0, 0);
        x.menu(1);
        x.reading(0, 1);
        x.image(1);
        Checks.typeAll(x, "ab");
        x.burnt(0, 5, 1);
        long above = x.part(0);
        long below = x.part(1);
        c.due("court(9)", x.court(9), 6);
        int[] counts = {0, 9, 0, 0, 0, 2};
        for (int what = 0; what < counts.length; what++) {
            c.due("count(" + what + ")", x.count(what), counts[what]);
        }
        c.due("leans()", x.leans(), 0);
        c.due("book(1, 2, 0)", x.book(1, 2, 0), 0);
        c.due("undo()", x.undo(), NO);
        c.due("part(0)", x.part(0), above);
        c.due("part(1)", x.part(1), below);
        c.due("status(0)", x.status(0), 3);
        c.due("from(1)", x.from(1), 1);
        c.due("count(0) of the image", x.count(0), 6);
        c.due("leans() of the image", x.leans(), 11);
        for (int k = 0; k < 25; k++) {
            x.book(k / 5, k % 5, 1 + k % 3);
        }
        c.due("court(0)", x.court(0), 6);
        for (int k = 0; k < 25; k++) {
            c.due("the book tells nothing", x.book(k / 5, k % 5, 0), 0);
        }
        c.due("count(1)", x.count(1), 0);
        c.due("court(0) again", x.court(0), 0);
    }

    private static void dish() {
        c.begin("3 dish");
        DinnerPleas x = new DinnerPleas();
        int[][] wrong = {
            {-1, 0, 1, 0, 0}, {6, 0, 1, 0, 0}, {0, -1, 1, 0, 0}, {0, 5, 1, 0, 0}, {0, 0, 0, 0, 0}, {0, 0, 10, 0, 0},
            {0, 0, 1, -1, 0}, {0, 0, 1, 10, 0}, {0, 0, 1, 0, -1}, {0, 0, 1, 0, 3}, {HIGH, 0, 1, 0, 0}, {0, LOW, 1, 0, 0}};
        for (int[] w : wrong) {
            c.due("dish(..) with a wrong number", x.dish(w[0], w[1], w[2], w[3], w[4]), BAD);
        }
        c.due("count(0)", x.count(0), 0);
        c.due("status(0)", x.status(0), wrong.length);
        c.due("dish(5, 4, 9, 9, 2)", x.dish(5, 4, 9, 9, 2), 0);
        for (int i = 1; i < 8; i++) {
            c.due("dish(0, 0, 1, 0, 0)", x.dish(0, 0, 1, 0, 0), i);
        }
        c.due("a 9th dish", x.dish(0, 0, 1, 0, 0), FULL);
        c.due("a 9th dish, wrong", x.dish(0, 0, 10, 0, 0), BAD);
        c.due("status(2)", x.status(2), 1);
        c.due("count(0)", x.count(0), 8);
    }

    private static void book() {
        c.begin("4 book");
        DinnerPleas x = new DinnerPleas();
        c.due("book(-1, 0, 0)", x.book(-1, 0, 0), -10);
        c.due("book(5, 0, 0)", x.book(5, 0, 0), -10);
        c.due("book(0, -1, 0)", x.book(0, -1, 0), -10);
        c.due("book(0, 5, 0)", x.book(0, 5, 0), -10);
        c.due("book(0, 0, -4)", x.book(0, 0, -4), -10);
        c.due("book(0, 0, 4)", x.book(0, 0, 4), -10);
        c.due("status(0)", x.status(0), 6);
        c.due("book(4, 1, -3)", x.book(4, 1, -3), 0);
        c.due("book(1, 4, 3)", x.book(1, 4, 3), 0);
        c.due("book(4, 1, 2)", x.book(4, 1, 2), -3);
        c.due("book(4, 1, 0)", x.book(4, 1, 0), 2);
        c.due("book(1, 4, 0)", x.book(1, 4, 0), 3);
        c.due("book(1, 4, 1)", x.book(1, 4, 1), 0);

        DinnerPleas y = new DinnerPleas();
        y.dish(0, 1, 2, 0, 2);
        y.dish(0, 2, 2, 0, 2);
        y.book(1, 2, 3);
        y.book(2, 1, -3);
        c.due("nothing ahead: no book", y.of(1, 6), 2);
        y.serve(0, 0);
        c.due("the book of 1 ahead, 2 behind", y.of(1, 6), 5);
        y.undo();
        y.serve(1, 0);
        c.due("the book of 2 ahead, 1 behind, 0 at least", y.of(0, 6), 0);
        c.due("serve(0, 1)", y.serve(0, 1), 0);
        c.due("leans()", y.leans(), 2);
    }

    private static void lean() {
        c.begin("5 lean");
        DinnerPleas x = new DinnerPleas();
        c.due("lean(31)", x.lean(31), -1000);
        c.due("lean(-31)", x.lean(-31), -1000);
        c.due("status(0)", x.status(0), 2);
        c.due("lean(30)", x.lean(30), 0);
        c.due("lean(-30)", x.lean(-30), 30);
        c.due("lean(0)", x.lean(0), -30);
        c.due("leans()", x.leans(), 0);
    }

    private static void typeAndClear() {
        c.begin("6 type, 7 clear");
        DinnerPleas x = new DinnerPleas();
        c.due("clear()", x.clear(), 0);
        c.due("type(-1)", x.type(-1), BAD);
        c.due("type(128)", x.type(128), BAD);
        c.due("type(0)", x.type(0), 1);
        c.due("type(127)", x.type(127), 2);
        for (int i = 3; i <= 150; i++) {
            c.due("type(32)", x.type(32), i);
        }
        c.due("the 151st byte", x.type(32), FULL);
        c.due("the 151st byte, wrong", x.type(128), BAD);
        c.due("count(5)", x.count(5), 150);
        c.due("status(0)", x.status(0), 3);
        c.due("status(2)", x.status(2), 1);
        c.due("clear()", x.clear(), 150);
        c.due("count(5)", x.count(5), 0);
        c.due("type(97)", x.type(97), 1);
        c.due("clear()", x.clear(), 1);
    }

    private static void readItems() {
        c.begin("8 read");
        DinnerPleas x = new DinnerPleas();
        c.due("court alone", Checks.readOnly(x, "court 0;"), 1);
        c.due("count(1)", x.count(1), 0);
        c.due("count(5): the text stays", x.count(5), 8);
        c.due("two figures", Checks.readOnly(x, "court 09;"), 1);
        c.due("count(1)", x.count(1), 9);
        c.due("many blanks, and behind", Checks.readOnly(x, "   court   7  ;  "), 1);
        c.due("count(1)", x.count(1), 7);
        c.due("no blanks where none are needed", Checks.readOnly(x, "court4;dish5 4 9 9 2;more4 3 2;less0 1 3;less 1 0 2;"), 5);
        int[] last = {5, 4, 9, 9, 2, 0, 0};
        for (int what = 0; what < last.length; what++) {
            c.due("of(0, " + what + ")", x.of(0, what), last[what]);
        }
        c.due("book(4, 3, 0)", x.book(4, 3, 0), 2);
        c.due("book(0, 1, 0)", x.book(0, 1, 0), -3);
        c.due("book(1, 0, 0)", x.book(1, 0, 0), -2);
        c.due("the later item holds", Checks.readOnly(x, "court 1;more 2 2 3;less 2 2 1;"), 3);
        c.due("book(2, 2, 0)", x.book(2, 2, 0), -1);
        c.due("more and less by 0", Checks.readOnly(x, "court 1;more 2 2 3;less 2 2 0;"), 3);
        c.due("book(2, 2, 0)", x.book(2, 2, 0), 0);
        c.due("the first text's book is gone", Checks.readOnly(x, "court 1;more 0 0 3;more 3 0 2;"), 3);
        c.due("the first text's book is gone", Checks.readOnly(x, "court 1;"), 1);
        c.due("book(0, 0, 0)", x.book(0, 0, 0), 0);
        c.due("book(3, 0, 0)", x.book(3, 0, 0), 0);
        String eight = "dish 0 0 1 0 0;".repeat(8);
        c.due("8 dishes", Checks.readOnly(x, "court 1;" + eight), 9);
        c.due("count(0)", x.count(0), 8);
    }

    private static void readFaults() {
        c.begin("8 read, faults");
        Object[][] faults = {
            {"", 0}, {"   ", 3}, {"court", 5}, {"court ", 6}, {"court 5", 7}, {"court 5 ", 8},
            {"cour", 0}, {"courts 5;", 0}, {"courta 5;", 0}, {"courtz 5;", 0}, {"xourt 5;", 0}, {"courx 5;", 0},
            {"Court 5;", 0}, {"cour t 5;", 0}, {" ;", 1}, {"5", 0}, {"@", 0},
            {"dish 0 0 1 0 0;", 0}, {"more 0 0 0;court 5;", 0}, {"court ;", 6}, {"court court", 6},
            {"court 10;", 6}, {"court 005;", 6}, {"court 5 5;", 8}, {"court 5 dish", 8}, {"court 5\t;", 7},
            {"court -1;", 6}, {"court 5;;", 8}, {"court 5;court 5;", 8}, {"court 5; x", 9}, {"court 5;di", 8},
            {"court 5;9", 8}, {"court 5;dish", 12}, {"court 5;dish 6", 13}, {"court 5;dish 5 5", 15},
            {"court 5;dish 5 4 0", 17}, {"court 5;dish 5 4 10 ", 17}, {"court 5;dish 5 4 9 10", 19},
            {"court 5;dish 5 4 9 9 3", 21}, {"court 5;dish 5 4 9 9 ;", 21}, {"court 5;dish 5 4 9 9 2", 22},
            {"court 5;dish 5 4 9 9 2 1;", 23}, {"court 5;more 5", 13}, {"court 5;more 4 5", 15},
            {"court 5;more 4 4 4;", 17}, {"court 5;less 4 4 4;", 17}, {"court 5;less 4 4 -1;", 17},
            {"court 5;less 4 4 3", 18}, {"court 5;less 4 4 3;#", 19}, {"court 5;more 000 0 0;", 13},
            {"court 5;dishes 0 0 1 0 0;", 8}, {"court 5;dish0 0 1 0 0;MORE 0 0 1;", 22}, {"court 5;\0", 8},
            {"court 1;" + "dish 0 0 1 0 0;".repeat(8) + "dish 9", 128}};
        for (Object[] fault : faults) {
            readFault((String) fault[0], (Integer) fault[1]);
        }
    }

    private static void readFault(String text, int place) {
        DinnerPleas x = Courts.sixKinds();
        x.lean(3);
        c.due("read() of " + text, Checks.readOnly(x, text), -10 - place);
        c.due("all stays: count(0)", x.count(0), 6);
        c.due("all stays: leans()", x.leans(), 3);
        for (int what = 0; what < 3; what++) {
            c.due("a fault is no refusal: status(" + what + ")", x.status(what), 0);
        }
    }

    private static void readTakesPlace() {
        c.begin("8 read, takes the place of");
        DinnerPleas x = Courts.sixKinds();
        x.book(0, 0, 3);
        x.lean(9);
        x.image(0);
        x.serve(2, 1);
        x.menu(2);
        x.reading(1, 2);
        x.burnt(0, 3, 0);
        x.undoes(2);
        c.due("read()", Checks.readOnly(x, "court 8;dish 3 1 2 0 1;"), 2);
        int[] counts = {1, 8, 0, 0, 0, 23};
        for (int what = 0; what < counts.length; what++) {
            c.due("count(" + what + ")", x.count(what), counts[what]);
        }
        c.due("leans()", x.leans(), 0);
        c.due("book(0, 0, 0)", x.book(0, 0, 0), 0);
        c.due("undo()", x.undo(), NO);
        c.due("part(0)", x.part(0), 1);
        c.due("status(0)", x.status(0), 1);
        c.due("from(0)", x.from(0), 1);
        c.due("count(0) of the image", x.count(0), 6);
        c.due("count(5) stays", x.count(5), 23);
    }

    private static void serveByKinds() {
        c.begin("9 serve, the kinds");
        DinnerPleas x = Courts.sixKinds();
        int[] alone = {4, 3, 2, 10, 6, 0};
        int[] behindPlain = {4, 6, 3, 9, 15, 0};
        for (int i = 0; i < 6; i++) {
            c.due("of(" + i + ", 6), nothing served", x.of(i, 6), alone[i]);
        }
        c.due("serve(0, 0)", x.serve(0, 0), 4);
        for (int i = 1; i < 6; i++) {
            c.due("of(" + i + ", 6) behind the plain one", x.of(i, 6), behindPlain[i]);
        }
        c.due("a glaze behind another cook's of its taste", x.serve(4, 1), 15);
        c.due("leans()", x.leans(), -11);
        c.due("a sauce behind its taste", x.of(1, 6), 6);
        c.due("a stew as the third", x.serve(2, 0), 4);
        c.due("a sauce behind another taste", x.of(1, 6), 3);
        c.due("a cheese as the fourth", x.of(5, 6), 0);
        c.due("bread as the fourth", x.serve(3, 0), 7);
        c.due("a cheese as the fifth", x.serve(5, 1), 11);
        c.due("a sauce as the sixth", x.serve(1, 1), 3);
        c.due("leans()", x.leans(), 4 - 15 + 4 + 7 - 11 - 3);

        DinnerPleas y = new DinnerPleas();
        y.dish(0, 1, 1, 0, 1);
        y.dish(4, 2, 5, 0, 1);
        y.dish(4, 2, 5, 0, 2);
        y.dish(5, 3, 5, 0, 1);
        y.book(1, 3, 2);
        y.serve(0, 1);
        c.due("a glaze behind its own cook's", y.of(1, 6), 5);
        c.due("a glaze of both behind one side's", y.of(2, 6), 8);
        c.due("a cheese too early is 0 and the book", y.of(3, 6), 2);
    }

    private static void serveRefused() {
        c.begin("9 serve, refused");
        DinnerPleas x = Courts.sixKinds();
        c.due("serve(-1, 0)", x.serve(-1, 0), BAD);
        c.due("serve(6, 0)", x.serve(6, 0), BAD);
        c.due("serve(0, -1)", x.serve(0, -1), BAD);
        c.due("serve(0, 2)", x.serve(0, 2), BAD);
        c.due("the other cook's", x.serve(0, 1), NO);
        c.due("the other cook's", x.serve(1, 0), NO);
        c.due("one of both by side 1", x.serve(2, 1), 2);
        c.due("served already", x.serve(2, 1), NO);
        c.due("served already", x.serve(2, 0), NO);
        c.due("leans()", x.leans(), -2);
        c.due("count(2)", x.count(2), 1);
        c.due("status(0)", x.status(0), 4);
        c.due("status(1)", x.status(1), 4);
    }

    private static void hunger() {
        c.begin("hunger");
        DinnerPleas x = new DinnerPleas();
        x.court(2);
        for (int i = 0; i < 5; i++) {
            x.dish(3, 0, 1, 0, 2);
        }
        int[] does = {3, 2, 1, 1, 1};
        for (int i = 0; i < 5; i++) {
            c.due("count(1)", x.count(1), Math.max(0, 2 - i));
            c.due("serve(" + i + ", 0)", x.serve(i, 0), does[i]);
        }
        c.due("count(1)", x.count(1), 0);
        x.undo();
        x.undo();
        x.undo();
        x.undo();
        c.due("count(1) behind undo", x.count(1), 1);
    }

    private static void undo() {
        c.begin("10 undo");
        DinnerPleas x = Courts.sixKinds();
        c.due("undo()", x.undo(), NO);
        c.due("status(1)", x.status(1), 1);
        x.serve(0, 0);
        x.lean(20);
        x.serve(4, 1);
        c.due("leans()", x.leans(), 5);
        x.lean(-3);
        c.due("undo()", x.undo(), 1);
        c.due("as ahead of the course", x.leans(), 20);
        c.due("count(1)", x.count(1), 4);
        c.due("of(4, 5)", x.of(4, 5), 0);
        c.due("it may be served again", x.serve(4, 1), 15);
        c.due("undo()", x.undo(), 1);
        c.due("undo()", x.undo(), 0);
        c.due("leans()", x.leans(), 0);
        c.due("count(1)", x.count(1), 5);
        c.due("undo()", x.undo(), NO);
        x.menu(3);
        x.reading(0, 0);
        x.serve(0, 0);
        x.undo();
        c.due("the menu stays", x.count(3), 1);
        c.due("the readings stay", x.count(4), 1);
    }

    private static void of() {
        c.begin("11 of");
        DinnerPleas x = Courts.sixKinds();
        int[] third = {3, 2, 5, 3, 0, 0, 10};
        for (int what = 0; what < third.length; what++) {
            c.due("of(3, " + what + ")", x.of(3, what), third[what]);
        }
        c.due("of(-1, 0)", x.of(-1, 0), BAD);
        c.due("of(6, 0)", x.of(6, 0), BAD);
        c.due("of(0, -1)", x.of(0, -1), BAD);
        c.due("of(0, 7)", x.of(0, 7), BAD);
        c.due("status(0)", x.status(0), 4);
        x.book(0, 0, -2);
        x.serve(1, 1);
        c.due("of(1, 5)", x.of(1, 5), 1);
        c.due("one served, behind itself", x.of(1, 6), 4);
    }

    private static void course() {
        c.begin("12 course");
        DinnerPleas x = Courts.sixKinds();
        c.due("course(0, 0)", x.course(0, 0), BAD);
        x.serve(2, 1);
        x.lean(5);
        x.serve(3, 0);
        int[][] rows = {{2, 1, 2}, {3, 0, 9}};
        for (int i = 0; i < 2; i++) {
            for (int what = 0; what < 3; what++) {
                c.due("course(" + i + ", " + what + ")", x.course(i, what), rows[i][what]);
            }
        }
        c.due("course(2, 0)", x.course(2, 0), BAD);
        c.due("course(-1, 0)", x.course(-1, 0), BAD);
        c.due("course(0, -1)", x.course(0, -1), BAD);
        c.due("course(0, 3)", x.course(0, 3), BAD);
        c.due("status(0)", x.status(0), 5);
        x.undo();
        c.due("course(1, 0) undone", x.course(1, 0), BAD);
    }

    private static void leansAndVerdict() {
        c.begin("13 leans, 14 verdict");
        DinnerPleas x = Courts.sixKinds();
        x.lean(30);
        x.serve(0, 0);
        c.due("beyond 30", x.leans(), 34);
        c.due("verdict()", x.verdict(), 0);
        x.lean(1);
        c.due("verdict()", x.verdict(), 0);
        x.lean(-1);
        c.due("verdict()", x.verdict(), 1);
        x.lean(0);
        c.due("verdict()", x.verdict(), 2);
        x.lean(-30);
        x.serve(4, 1);
        c.due("beyond -30", x.leans(), -45);
        c.due("verdict()", x.verdict(), 1);
    }

    private static void menuAndWipe() {
        c.begin("15 menu, 16 wipe");
        DinnerPleas x = Courts.sixKinds();
        c.due("wipe()", x.wipe(), 0);
        c.due("menu(-1)", x.menu(-1), BAD);
        c.due("menu(6)", x.menu(6), BAD);
        c.due("menu(5)", x.menu(5), 1);
        c.due("menu(5)", x.menu(5), NO);
        x.serve(0, 0);
        c.due("one that was served", x.menu(0), 2);
        c.due("menu(0)", x.menu(0), NO);
        c.due("status(0)", x.status(0), 2);
        c.due("status(1)", x.status(1), 2);
        c.due("wipe()", x.wipe(), 2);
        c.due("count(3)", x.count(3), 0);
        for (int i = 0; i < 6; i++) {
            c.due("menu(" + i + ")", x.menu(i), i + 1);
        }
        c.due("wipe()", x.wipe(), 6);
    }

    private static void comesAndDid() {
        c.begin("17 comes, 18 did");
        DinnerPleas x = Courts.sixKinds();
        c.due("comes(-1)", x.comes(-1), -1000);
        c.due("comes(2)", x.comes(2), -1000);
        c.due("did(-1, 0)", x.did(-1, 0), -10);
        c.due("did(2, 0)", x.did(2, 0), -10);
        c.due("did(0, -2)", x.did(0, -2), -10);
        c.due("did(0, lowest)", x.did(0, LOW), -10);
        c.due("status(0)", x.status(0), 6);
        c.due("an empty menu", x.comes(0), 0);
        c.due("an empty menu's verdict", x.did(0, NONE), 2);
        c.due("an empty menu's first", x.did(0, 0), -5);
        x.lean(-2);
        x.menu(1);
        x.menu(0);
        x.menu(4);
        int[] did = {3, 4, 15};
        for (int i = 0; i < did.length; i++) {
            c.due("whoever's cook, did(0, " + i + ")", x.did(0, i), did[i]);
            c.due("did(1, " + i + ")", x.did(1, i), did[i]);
        }
        c.due("comes(0)", x.comes(0), -2 + 3 - 4 + 15);
        c.due("comes(1)", x.comes(1), -2 - 3 + 4 - 15);
        c.due("did(0, NONE)", x.did(0, NONE), 0);
        c.due("did(1, NONE)", x.did(1, NONE), 1);
        c.due("did(0, 3)", x.did(0, 3), -5);
        c.due("did(0, highest)", x.did(0, HIGH), -5);
        c.due("nothing is changed", x.leans(), -2);
        c.due("nothing is served", x.count(2), 0);
        c.due("-5 is no refusal", x.status(0), 6);
    }

    private static void comesPassesOver() {
        c.begin("17 comes, passes over");
        DinnerPleas x = Courts.plain(1, 2, 4, 8);
        x.serve(1, 0);
        for (int i = 0; i < 4; i++) {
            x.menu(i);
        }
        c.due("the turn stays", x.comes(0), 2 + 1 - 4 + 8);
        c.due("did(0, 1)", x.did(0, 1), 0);
        c.due("did(0, 2)", x.did(0, 2), 4);
        x.serve(0, 0);
        x.serve(2, 0);
        x.serve(3, 0);
        c.due("all passed over", x.comes(1), 15);
    }

    private static void playAndFirst() {
        c.begin("19 play, 20 first");
        DinnerPleas x = Courts.sixKinds();
        c.due("play(0, 0)", x.play(0, 0), -1000);
        c.due("play(6, 0)", x.play(6, 0), -1000);
        c.due("play(1, -1)", x.play(1, -1), -1000);
        c.due("play(1, 2)", x.play(1, 2), -1000);
        c.due("first(0, 0)", x.first(0, 0), BAD);
        c.due("first(6, 0)", x.first(6, 0), BAD);
        c.due("first(1, -1)", x.first(1, -1), BAD);
        c.due("first(1, 2)", x.first(1, 2), BAD);
        c.due("status(0)", x.status(0), 8);
        x.lean(1);
        c.due("play(1, 0)", x.play(1, 0), 11);
        c.due("first(1, 0)", x.first(1, 0), 3);
        c.due("play(1, 1)", x.play(1, 1), -5);
        c.due("first(1, 1)", x.first(1, 1), 4);
        // Bread first, then the other's glaze behind another cook's: 10 - 9.
        c.due("play(2, 0)", x.play(2, 0), 1 + 10 - 9);
        c.due("first(2, 0)", x.first(2, 0), 3);

        DinnerPleas y = Courts.plain(3, 5, 5, 1);
        c.due("the least of like ones", y.first(1, 0), 1);
        c.due("play(3, 0)", y.play(3, 0), 5 - 5 + 3);
        c.due("play(4, 1)", y.play(4, 1), -(5 - 5 + 3 - 1));
        c.due("play(5, 1)", y.play(5, 1), -(5 - 5 + 3 - 1));
        y.serve(1, 0);
        c.due("served ones are no more", y.first(1, 0), 2);
        c.due("play(1, 0)", y.play(1, 0), 10);
    }

    private static void playPasses() {
        c.begin("19 play, none");
        DinnerPleas x = new DinnerPleas();
        c.due("no dishes", x.play(5, 0), 0);
        c.due("first: none", x.first(5, 0), 8);
        x.dish(0, 0, 1, 0, 0);
        x.dish(1, 0, 9, 0, 1);
        c.due("serving would double the other's sauce", x.first(2, 0), 8);
        c.due("play(2, 0)", x.play(2, 0), -9);
        c.due("play(3, 0): behind the sauce", x.play(3, 0), -8);
        c.due("first(3, 0)", x.first(3, 0), 8);
        c.due("first(1, 0)", x.first(1, 0), 0);
        x.serve(0, 0);
        c.due("nothing left for side 0", x.first(1, 0), 8);
        DinnerPleas y = new DinnerPleas();
        y.dish(5, 0, 9, 0, 0);
        c.due("one that does nothing is less than none", y.first(1, 0), 0);
        DinnerPleas z = new DinnerPleas();
        z.dish(0, 0, 1, 0, 1);
        z.dish(1, 0, 9, 0, 0);
        c.due("side 1 waits, too", z.first(2, 1), 8);
        c.due("then side 0 serves its own", z.play(2, 1), 9);
    }

    private static void pardon() {
        c.begin("21 pardon");
        DinnerPleas x = new DinnerPleas();
        c.due("pardon(-1, 0)", x.pardon(-1, 0), -10);
        c.due("pardon(2, 0)", x.pardon(2, 0), -10);
        c.due("pardon(0, -2)", x.pardon(0, -2), -10);
        c.due("status(0)", x.status(0), 3);
        c.due("none", x.pardon(0, NONE), NONE);
        c.due("none", x.pardon(0, 0), NONE);
        c.due("none", x.pardon(0, HIGH), NONE);
        x.lean(-1);
        c.due("for s already", x.pardon(1, NONE), 0);
        c.due("for s already, no dish", x.pardon(1, 0), -5);
        c.due("none", x.pardon(0, NONE), NONE);
        x.lean(-10);
        x.dish(0, 0, 9, 9, 0);
        x.dish(0, 0, 5, 3, 0);
        x.dish(0, 0, 6, 3, 2);
        x.dish(0, 0, 9, 0, 1);
        c.due("of own ones and of both", x.pardon(0, NONE), 6);
        c.due("pardon(0, 0)", x.pardon(0, 0), 1);
        c.due("pardon(0, 1)", x.pardon(0, 1), 2);
        c.due("pardon(0, 2)", x.pardon(0, 2), -5);
        c.due("for side 1 already", x.pardon(1, 0), -5);
        c.due("for side 1 already", x.pardon(1, NONE), 0);
        x.lean(10);
        c.due("side 1", x.pardon(1, NONE), 3);
        c.due("side 1", x.pardon(1, 0), 2);
        c.due("side 1", x.pardon(1, 1), 3);
        x.serve(2, 0);
        c.due("served ones are no more", x.pardon(1, NONE), NONE);
        c.due("NONE and -5 are no refusals", x.status(0), 3);
    }

    private static void pardonOrder() {
        c.begin("21 pardon, of like ones");
        DinnerPleas x = new DinnerPleas();
        x.dish(0, 0, 1, 1, 2);
        x.dish(0, 0, 1, 1, 2);
        x.dish(0, 0, 2, 2, 2);
        x.dish(0, 0, 2, 2, 2);
        x.lean(-1);
        c.due("the fewest dishes", x.pardon(0, NONE), 2);
        c.due("then the first", x.pardon(0, 0), 2);
        c.due("one alone", x.pardon(0, 1), -5);
        DinnerPleas y = new DinnerPleas();
        y.lean(-4);
        for (int i = 0; i < 6; i++) {
            y.dish(0, 0, 1, 0, 0);
        }
        c.due("5 would do, 4 may be", y.pardon(0, NONE), NONE);
        y.lean(-3);
        c.due("4 do", y.pardon(0, NONE), 0);
        for (int i = 0; i < 4; i++) {
            c.due("pardon(0, " + i + ")", y.pardon(0, i), i);
        }
        c.due("pardon(0, 4)", y.pardon(0, 4), -5);
        DinnerPleas z = new DinnerPleas();
        z.dish(1, 0, 3, 1, 0);
        z.dish(0, 0, 1, 1, 0);
        z.lean(-6);
        c.due("the sauce goes behind", z.pardon(0, 0), 1);
        c.due("the sauce goes behind", z.pardon(0, 1), 0);
        c.due("its butter", z.pardon(0, NONE), 2);
    }

    private static void cancel() {
        c.begin("22 cancel");
        DinnerPleas x = Courts.plain(3, 2, 3, 2, 3);
        c.due("cancel(-2)", x.cancel(-2), -10);
        c.due("status(0)", x.status(0), 1);
        c.due("how many", x.cancel(NONE), 4);
        int[] pairs = {2, 4, 13, 24};
        for (int k = 0; k < pairs.length; k++) {
            c.due("cancel(" + k + ")", x.cancel(k), pairs[k]);
        }
        c.due("cancel(4)", x.cancel(4), -5);
        c.due("cancel(highest)", x.cancel(HIGH), -5);
        x.lean(7);
        x.serve(2, 1);
        c.due("none of both served", x.cancel(NONE), 2);
        c.due("cancel(0)", x.cancel(0), 4);
        c.due("cancel(1)", x.cancel(1), 13);
        c.due("-5 is no refusal", x.status(0), 1);

        DinnerPleas y = new DinnerPleas();
        y.dish(0, 0, 3, 0, 1);
        y.dish(0, 1, 3, 0, 0);
        c.due("whoever's cook", y.cancel(NONE), 1);
        y.book(0, 1, 1);
        c.due("either way", y.cancel(NONE), 0);
        y.book(0, 1, 0);
        y.book(1, 0, 1);
        c.due("either way", y.cancel(NONE), 0);
        DinnerPleas z = Courts.plain(1, 1, 1, 1, 1, 1, 1, 1);
        for (int i = 0; i < 6; i++) {
            z.serve(i, 0);
        }
        c.due("two left", z.cancel(0), 67);
        z.serve(6, 0);
        c.due("one left", z.cancel(NONE), 0);
    }

    private static void undoes() {
        c.begin("23 undoes");
        DinnerPleas x = new DinnerPleas();
        c.due("undoes(-1)", x.undoes(-1), BAD);
        c.due("undoes(2)", x.undoes(2), BAD);
        c.due("status(0)", x.status(0), 2);
        c.due("undoes(0)", x.undoes(0), NONE);
        x.dish(0, 0, 9, 4, 0);
        x.dish(0, 0, 3, 2, 2);
        x.dish(0, 0, 4, 2, 2);
        x.dish(0, 0, 2, 1, 0);
        x.dish(0, 0, 9, 0, 1);
        c.due("from equity", x.undoes(0), 3);
        x.lean(-3);
        c.due("to equity is another one, too", x.undoes(0), 1);
        c.due("side 1 changes nothing", x.undoes(1), NONE);
        x.serve(1, 1);
        c.due("served ones are no more", x.undoes(0), 0);
        x.lean(4);
        c.due("side 1's own", x.undoes(1), 4);
        x.lean(10);
        c.due("too far", x.undoes(1), NONE);
        c.due("NONE is no refusal", x.status(0), 2);
    }

    private static void readingAndForget() {
        c.begin("24 reading, 25 forget");
        DinnerPleas x = Courts.sixKinds();
        c.due("reading(-1, 0)", x.reading(-1, 0), BAD);
        c.due("reading(2, 0)", x.reading(2, 0), BAD);
        c.due("reading(0, -1)", x.reading(0, -1), BAD);
        c.due("reading(0, 3)", x.reading(0, 3), BAD);
        c.due("forget()", x.forget(), 0);
        for (int i = 1; i <= 6; i++) {
            c.due("reading(1, 2)", x.reading(1, 2), i);
        }
        c.due("a 7th", x.reading(0, 0), FULL);
        c.due("a 7th, wrong", x.reading(0, 3), BAD);
        c.due("status(0)", x.status(0), 5);
        c.due("status(2)", x.status(2), 1);
        c.due("count(4)", x.count(4), 6);
        c.due("forget()", x.forget(), 6);
        c.due("count(4)", x.count(4), 0);
    }

    private static void before() {
        c.begin("26 before");
        DinnerPleas x = Courts.sixKinds();
        c.due("before(-1)", x.before(-1), -1000);
        c.due("before(2)", x.before(2), -1000);
        c.due("status(0)", x.status(0), 2);
        c.due("no readings", x.before(0), 61);
        c.due("no readings", x.before(1), -30);
        x.menu(3);
        x.reading(0, 0);
        c.due("bread pulls by 10", x.before(0), 40);
        c.due("bread pulls by 10", x.before(1), -9);
        x.serve(2, 0);
        c.due("from nothing served", x.before(0), 40);
        x.menu(0);
        x.reading(1, 1);
        // Bread by side 1, the plain one by side 0: 6 to side 1.
        c.due("both", x.before(0), 15);
        c.due("both", x.before(1), -9);
        x.wipe();
        x.reading(0, 2);
        c.due("an empty menu, equity", x.before(0), 1);
        c.due("an empty menu, equity", x.before(1), 0);
        x.reading(1, 0);
        c.due("none fits", x.before(0), 0);
        c.due("none fits", x.before(1), -100);
        x.forget();
        c.due("forgotten", x.before(0), 61);
        c.due("forgotten", x.before(1), -30);
        x.menu(2);
        x.reading(1, 2);
        c.due("equity", x.before(0), 1);
        c.due("equity", x.before(1), 2);
        x.book(1, 1, 3);
        c.due("nothing is ahead of the first", x.before(1), 2);
        x.forget();
        x.wipe();
        x.menu(1);
        x.menu(0);
        x.reading(0, 2);
        c.due("3 - 4", x.before(1), 1);
        x.book(0, 0, 2);
        c.due("by the book as it is now: 3 - 6", x.before(1), 3);
        c.due("of what is known nothing is new", x.tells(0), 1);
    }

    private static void tells() {
        c.begin("27 tells");
        DinnerPleas x = Courts.sixKinds();
        c.due("tells(-1)", x.tells(-1), BAD);
        c.due("tells(2)", x.tells(2), BAD);
        c.due("status(0)", x.status(0), 2);
        c.due("an empty menu", x.tells(0), 30);
        x.menu(3);
        c.due("above -10", x.tells(0), 40);
        c.due("below 10", x.tells(1), 40);
        x.serve(0, 0);
        x.lean(9);
        c.due("from nothing served", x.tells(0), 40);
        x.reading(0, 0);
        c.due("nothing new", x.tells(0), 40);
        c.due("-9 .. 9, 10, 11 .. 30", x.tells(1), 20);
        x.wipe();
        x.reading(0, 2);
        c.due("one left", x.tells(0), 1);
        x.reading(0, 1);
        c.due("none left", x.tells(0), 0);
    }

    private static void sure() {
        c.begin("28 sure");
        DinnerPleas x = Courts.plain(3, 2, 2);
        c.due("sure(-1)", x.sure(-1), BAD);
        c.due("sure(2)", x.sure(2), BAD);
        c.due("status(0)", x.status(0), 2);
        c.due("an empty menu", x.sure(0), 1);
        x.menu(0);
        c.due("it is all there is", x.sure(0), 0);
        x.lean(1);
        c.due("side 0 anyway", x.sure(0), 1);
        c.due("to side 1 but for it", x.sure(1), 0);
        x.lean(0);
        x.menu(1);
        x.menu(2);
        c.due("3 - 2 + 2, less 3: equity", x.sure(0), 0);
        x.lean(1);
        c.due("1 + 3 - 2 + 2, less 3", x.sure(0), 1);
        x.serve(0, 0);
        c.due("from now on: 4 + 2 - 2", x.sure(0), 1);
        x.lean(-2);
        c.due("-2 + 2 - 2, less -2: equity", x.sure(0), 0);
        DinnerPleas y = new DinnerPleas();
        y.dish(0, 0, 9, 0, 2);
        y.dish(1, 0, 4, 0, 2);
        y.menu(0);
        y.menu(1);
        y.lean(8);
        c.due("a burnt one is served: 8 - 8", y.sure(0), 0);
        y.lean(9);
        c.due("9 - 8", y.sure(0), 1);
    }

    private static void burntAndPart() {
        c.begin("29 burnt, 31 part");
        DinnerPleas x = Courts.plain(2, 1, 4);
        c.due("burnt(-1, 0, 0)", x.burnt(-1, 0, 0), BAD);
        c.due("burnt(2, 0, 0)", x.burnt(2, 0, 0), BAD);
        c.due("burnt(0, -1, 0)", x.burnt(0, -1, 0), BAD);
        c.due("burnt(0, 11, 0)", x.burnt(0, 11, 0), BAD);
        c.due("burnt(0, 0, -1)", x.burnt(0, 0, -1), BAD);
        c.due("burnt(0, 0, 3)", x.burnt(0, 0, 3), BAD);
        c.due("part(-1)", x.part(-1), BAD);
        c.due("part(2)", x.part(2), BAD);
        c.due("status(0)", x.status(0), 8);
        chance(x, 0, 3, 2, 1, 1);
        x.menu(0);
        x.menu(1);
        chance(x, 0, 0, 0, 1, 1);
        chance(x, 0, 10, 2, 1, 1);
        chance(x, 0, 10, 0, 0, 1);
        chance(x, 0, 3, 0, 7, 10);
        chance(x, 0, 3, 1, 21, 100);
        chance(x, 0, 3, 2, 9, 100);
        chance(x, 1, 5, 1, 1, 2);
        chance(x, 1, 5, 0, 1, 4);
        x.burnt(3, 5, 0);
        c.due("refused: the fraction stays", x.part(0), 1);
        c.due("refused: the fraction stays", x.part(1), 4);
        x.serve(0, 1);
        // Passed over: the fraction is that of the other one alone, 1 to side 0.
        x.lean(-1);
        chance(x, 0, 2, 2, 4, 5);
        chance(x, 0, 2, 1, 1, 5);
        DinnerPleas y = Courts.plain(1, 1, 1, 1, 1, 1, 1, 1);
        for (int i = 0; i < 8; i++) {
            y.menu(i);
        }
        // Side 0 and side 1 have 4 each: equity if as many are whole: sum of C(4, k)^2 9^2k over 10^8.
        long ways = 1 + 16 * 81L + 36 * 6561L + 16 * 531441L + 43046721L;
        chance(y, 0, 1, 2, ways / 10, 100000000L / 10);
        y.lean(-4);
        chance(y, 0, 3, 0, 0, 1);
        chance(y, 0, 3, 2, 7L * 7 * 7 * 7 * 3 * 3 * 3 * 3, 100000000L);
    }

    private static void chance(DinnerPleas x, int side, int odds, int v, long above, long below) {
        String call = "burnt(" + side + ", " + odds + ", " + v + ")";
        c.due(call, x.burnt(side, odds, v), 1);
        c.due(call + ", above", x.part(0), above);
        c.due(call + ", below", x.part(1), below);
    }

    private static void dinners() {
        c.begin("30 dinners");
        DinnerPleas x = Courts.plain(1, 1, 1, 1, 1, 1, 1, 1);
        c.due("dinners(-1, 0)", x.dinners(-1, 0), BAD);
        c.due("dinners(1000000, 0)", x.dinners(1000000, 0), BAD);
        c.due("dinners(0, -1)", x.dinners(0, -1), BAD);
        c.due("dinners(0, 61)", x.dinners(0, 61), BAD);
        c.due("status(0)", x.status(0), 4);
        c.due("dinners(7, 0)", x.dinners(7, 0), 0);
        c.due("dinners(0, 60)", x.dinners(0, 60), oddLong(0, 60));
        c.due("dinners(999999, 60)", x.dinners(999999, 60), oddLong(999999, 60));
        c.due("dinners(123456, 31)", x.dinners(123456, 31), oddLong(123456, 31));
        DinnerPleas y = new DinnerPleas();
        for (int i = 0; i < 8; i++) {
            y.dish(0, 0, 1, 0, i % 2);
        }
        c.due("by their cooks", y.dinners(77, 60), oddLongByCooks(77, 60));
        x.lean(30);
        c.due("far to side 0", x.dinners(5, 60), 60);
        x.lean(-30);
        c.due("far to side 1", x.dinners(5, 60), 0);
        c.due("nothing is changed", x.count(2), 0);
    }

    /** With dishes of 1 for both, side 0 wins the dinners of an odd number of courses. */
    private static int oddLong(long x, int n) {
        int odd = 0;
        for (int i = 0; i < n; i++) {
            java.util.Set<Long> drawn = new java.util.HashSet<>();
            while (true) {
                x = (x * 1103515245L + 12345L) & 0x7fffffffL;
                long dish = (x >> 16) % 9;
                if (dish == 8 || !drawn.add(dish)) {
                    break;
                }
            }
            odd += drawn.size() % 2;
        }
        return odd;
    }

    /** The same, if the even ones are side 0's and the odd ones side 1's. */
    private static int oddLongByCooks(long x, int n) {
        int odd = 0;
        for (int i = 0; i < n; i++) {
            java.util.Set<Long> drawn = new java.util.HashSet<>();
            while (true) {
                x = (x * 1103515245L + 12345L) & 0x7fffffffL;
                long dish = (x >> 16) % 9;
                if (dish == 8 || dish % 2 != drawn.size() % 2 || !drawn.add(dish)) {
                    break;
                }
            }
            odd += drawn.size() % 2;
        }
        return odd;
    }

    private static void images() {
        c.begin("32 image, 33 from");
        DinnerPleas x = Courts.sixKinds();
        c.due("image(-1)", x.image(-1), BAD);
        c.due("image(2)", x.image(2), BAD);
        c.due("from(-1)", x.from(-1), BAD);
        c.due("from(2)", x.from(2), BAD);
        c.due("from(0)", x.from(0), NO);
        c.due("from(1)", x.from(1), NO);
        c.due("status(0)", x.status(0), 4);
        c.due("status(1)", x.status(1), 2);
        x.book(3, 4, -2);
        x.lean(6);
        x.serve(0, 0);
        x.lean(-8);
        x.menu(2);
        x.menu(1);
        x.reading(1, 2);
        long kept = x.digest();
        c.due("image(0)", x.image(0), 1);
        c.due("from(1) is none still", x.from(1), NO);
        x.court(1);
        c.due("image(1)", x.image(1), 1);
        c.due("from(0)", x.from(0), 1);
        c.due("all is back", x.digest(), kept);
        c.due("what may be undone", x.undo(), 0);
        c.due("as ahead of it", x.leans(), 6);
        c.due("from(0) again", x.from(0), 1);
        c.due("it was kept apart", x.digest(), kept);
        Checks.typeAll(x, "abc");
        x.burnt(0, 4, 1);
        long above = x.part(0);
        long below = x.part(1);
        c.due("from(1)", x.from(1), 1);
        c.due("count(0)", x.count(0), 0);
        c.due("count(1)", x.count(1), 1);
        c.due("the text stays", x.count(5), 3);
        c.due("the fraction stays", x.part(0), above);
        c.due("the fraction stays", x.part(1), below);
        c.due("status stays", x.status(1), 3);
        x.dish(0, 0, 1, 0, 0);
        c.due("image(0) anew", x.image(0), 1);
        x.court(2);
        x.from(0);
        c.due("the new one", x.count(0), 1);
    }

    private static void status() {
        c.begin("34 status");
        DinnerPleas x = new DinnerPleas();
        c.due("status(-1)", x.status(-1), -1);
        c.due("status(3)", x.status(3), -1);
        c.due("status(0)", x.status(0), 2);
        x.book(9, 9, 9);
        x.lean(99);
        x.comes(9);
        x.did(9, 0);
        x.play(9, 0);
        x.pardon(9, 0);
        x.cancel(-9);
        x.before(9);
        c.due("status(0)", x.status(0), 10);
        c.due("status(1)", x.status(1), 0);
        c.due("status(2)", x.status(2), 0);
        x.undo();
        c.due("status(1)", x.status(1), 1);
    }

    private static void count() {
        c.begin("35 count");
        DinnerPleas x = Courts.sixKinds();
        c.due("count(-1)", x.count(-1), BAD);
        c.due("count(6)", x.count(6), BAD);
        c.due("status(0)", x.status(0), 2);
        x.serve(3, 0);
        x.serve(2, 0);
        x.menu(5);
        x.reading(0, 0);
        x.reading(0, 0);
        x.menu(4);
        x.menu(3);
        Checks.typeAll(x, "abcd");
        int[] counts = {6, 3, 2, 3, 2, 4};
        for (int what = 0; what < counts.length; what++) {
            c.due("count(" + what + ")", x.count(what), counts[what]);
        }
    }

    private static void digest() {
        c.begin("36 digest");
        DinnerPleas x = new DinnerPleas();
        x.court(7);
        x.dish(0, 1, 4, 2, 0);
        x.dish(3, 2, 5, 9, 2);
        x.book(0, 1, 2);
        x.book(1, 2, -3);
        x.book(4, 4, 1);
        x.lean(-5);
        x.serve(0, 0);
        x.serve(1, 1);
        x.menu(1);
        x.reading(0, 2);
        x.menu(0);
        x.reading(1, 1);
        x.burnt(0, 5, 2);
        Checks.typeAll(x, "xyz");
        // Behind the plain one, bread does 5 and 6 less 3.
        c.due("digest()", x.digest(), Checks.digestOf(
                2, 5, 2, 2, 2, 3,
                -9,
                0, 2, 0, 0, 0, 0, 0, -3, 0, 0, 0, 0, 0, 0, 0, 0, 0, 0, 0, 0, 0, 0, 0, 0, 1,
                0, 1, 4, 2, 0, 3, 2, 5, 9, 2,
                0, 0, 4, 1, 1, 8,
                1, 0,
                0, 2, 1, 1, 1, 1, 2, 1, 0,
                0, 1));
        x.burnt(0, 5, 1);
        x.image(0);
        long was = x.digest();
        x.play(3, 0);
        x.pardon(0, 0);
        x.sure(0);
        x.tells(1);
        x.before(0);
        x.dinners(9, 9);
        x.cancel(0);
        x.undoes(1);
        x.comes(1);
        x.count(99);
        c.due("asking changes nothing", x.digest(), was);
    }
}
