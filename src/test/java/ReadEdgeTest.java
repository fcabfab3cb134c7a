import java.util.ArrayList;
import java.util.List;

/** The edges of the text that tells a court (promise 8): each number, each byte, each end, each fault; one object a text. */
public final class ReadEdgeTest {
    private static final int NO = DinnerPleas.NO;
    private static final Checks c = new Checks();

    public static void main(String[] args) {
        empty();
        longest();
        items();
        courtFirstAndOnce();
        courtNumbers();
        dishNumbers();
        followNumbers();
        thirdFigures();
        eightDishes();
        unknownWords();
        bytesThatBeginNone();
        tokensOutOfPlace();
        ends();
        blanks();
        moreAndLess();
        takesThePlace();
        allStays();
        again();
        c.end();
    }

    private static DinnerPleas typed(String text) {
        DinnerPleas x = new DinnerPleas();
        Checks.typeAll(x, text);
        return x;
    }

    private static void reads(String text, int items) {
        c.due("read() of '" + text + "'", typed(text).read(), items);
    }

    private static void fault(String text, int place) {
        c.due("read() of '" + text + "'", typed(text).read(), -10 - place);
    }

    private static void empty() {
        c.begin("8 read: FAULT: the TEXT's length, if it ends too early (an empty one, too)");
        fault("", 0);
        fault(" ", 1);
        fault(" ".repeat(149), 149);
        fault(" ".repeat(150), 150);
    }

    private static void longest() {
        c.begin("8 read: a TEXT (150 bytes at most)");
        reads(Courts.pad("court 5;", 149), 1);
        reads(Courts.pad("court 5;", 150), 1);
        reads(" ".repeat(142) + "court 5;", 1);
        fault(" ".repeat(143) + "court 5", 150);
        fault(" ".repeat(145) + "court", 150);
        fault(" ".repeat(146) + "cour", 146);
        fault(Courts.pad("court 5;", 149) + "@", 149);
        // What does not come behind it any more is not read.
        reads(Courts.pad("court 5;", 150) + "@", 1);
        fault(" ".repeat(143) + "court 5;", 150);
    }

    private static void items() {
        c.begin("8 read: how many ITEMS");
        StringBuilder text = new StringBuilder("court 5;");
        for (int items = 1; items <= 12; items++) {
            reads(text.toString(), items);
            text.append("more 0 0 0;");
        }
        reads("court5;" + "less0 0 0;".repeat(14), 15);
        reads("court 5;dish 0 0 1 0 0;more 0 0 1;less 0 1 1;", 4);
        reads("court 5;less 0 1 1;more 0 0 1;dish 0 0 1 0 0;", 4);
    }

    private static void courtFirstAndOnce() {
        c.begin("8 read: FAULT: anything ahead of court");
        for (String ahead : new String[] {"dish 0 0 1 0 0;", "more 0 0 0;", "less 0 0 0;", ";", "5", "x", "@"}) {
            fault(ahead + "court 5;", 0);
            fault(" " + ahead + "court 5;", 1);
        }
        c.begin("8 read: FAULT: court again");
        fault("court 5;court 5;", 8);
        fault("court 5; court", 9);
        fault("court 5;dish 0 0 1 0 0;court 5;", 23);
    }

    private static void courtNumbers() {
        c.begin("8 read: court HUNGER 0 .. 9 (1 or 2 figures are one number)");
        for (int n = 0; n <= 99; n++) {
            numberInCourt("" + n, n);
            if (n < 10) {
                numberInCourt("0" + n, n);
            }
        }
    }

    private static void numberInCourt(String figures, int n) {
        DinnerPleas x = typed("court " + figures + ";");
        c.due("read() of court " + figures, x.read(), n <= 9 ? 1 : -16);
        c.due("count(1) behind court " + figures, x.count(1), n <= 9 ? n : 5);
    }

    private static void dishNumbers() {
        int[] least = {0, 0, 1, 0, 0};
        int[] most = {5, 4, 9, 9, 2};
        for (int column = 0; column < 5; column++) {
            c.begin("8 read: dish KIND TASTE FORCE BUTTER COOK: number " + column);
            for (int n = 0; n <= 12; n++) {
                int[] row = {1, 1, 1, 1, 1};
                row[column] = n;
                boolean fits = n >= least[column] && n <= most[column];
                DinnerPleas x = typed("court 5;dish " + join(row) + ";");
                c.due("read() of dish " + join(row), x.read(), fits ? 2 : -10 - (13 + 2 * column));
                c.due("count(0)", x.count(0), fits ? 1 : 0);
                for (int what = 0; what < 5 && fits; what++) {
                    c.due("of(0, " + what + ") behind dish " + join(row), x.of(0, what), row[what]);
                }
            }
        }
        reads("court 5;dish 05 04 09 09 02;", 2);
        reads("court 5;dish 00 00 01 00 00;", 2);
        fault("court 5;dish 00 00 00 00 00;", 19);
    }

    private static String join(int[] row) {
        List<String> numbers = new ArrayList<>();
        for (int n : row) {
            numbers.add("" + n);
        }
        return String.join(" ", numbers);
    }

    private static void followNumbers() {
        int[] most = {4, 4, 3};
        for (String word : new String[] {"more", "less"}) {
            for (int column = 0; column < 3; column++) {
                c.begin("8 read: " + word + " a b n (0 .. 3): number " + column);
                for (int n = 0; n <= 12; n++) {
                    int[] row = {2, 3, 1};
                    row[column] = n;
                    boolean fits = n <= most[column];
                    DinnerPleas x = typed("court 5;" + word + " " + join(row) + ";");
                    c.due("read() of " + word + " " + join(row), x.read(), fits ? 2 : -10 - (13 + 2 * column));
                    if (fits) {
                        int told = word.equals("more") ? row[2] : -row[2];
                        c.due("book behind " + word + " " + join(row), x.book(row[0], row[1], 0), told);
                    }
                }
            }
        }
        reads("court 5;more 04 04 03;less 00 00 00;", 3);
    }

    private static void thirdFigures() {
        c.begin("8 read: FAULT: a third figure's number, at its first byte");
        fault("court 000;", 6);
        fault("court 001;", 6);
        fault("court 005", 6);
        fault("court 0000;", 6);
        fault("court 100;", 6);
        fault("court 999;", 6);
        fault("court 0000000000;", 6);
        fault("court 4294967296;", 6);
        fault("court " + "0".repeat(144), 6);
        fault("court005;", 5);
        fault("court 5;dish 001 0 1 0 0;", 13);
        fault("court 5;dish 0 000 1 0 0;", 15);
        fault("court 5;dish 0 0 001 0 0;", 17);
        fault("court 5;dish 0 0 1 000 0;", 19);
        fault("court 5;dish 0 0 1 0 000;", 21);
        fault("court 5;more 0 0 001;", 17);
        fault("court 5;less 000 0 0;", 13);
        // Two figures and a third one apart are two numbers.
        fault("court 00 1;", 9);
        reads("court 5;dish 00 0 1 00 0;", 2);
    }

    private static void eightDishes() {
        c.begin("8 read: FAULT: a 9th dish at its word");
        for (int many = 0; many <= 8; many++) {
            DinnerPleas x = typed("court 1;" + "dish 0 0 1 0 0;".repeat(many));
            c.due("read() of " + many + " dishes", x.read(), 1 + many);
            c.due("count(0)", x.count(0), many);
        }
        String eight = "court 1;" + "dish 0 0 1 0 0;".repeat(8);
        fault(eight + "dish 0 0 1 0 0;", 128);
        fault(eight + "dish", 128);
        fault(eight + "  dish 9", 130);
        fault(eight + "dis", 128);
        reads(eight + "more 0 0 1;", 10);
        fault(eight + "more 0 0 1;dish", 139);
        fault("court 1;more 0 0 1;" + "dish 0 0 1 0 0;".repeat(8) + "dish 0 0", 139);
    }

    private static void unknownWords() {
        c.begin("8 read: FAULT: a word that is none");
        for (String word : new String[] {"c", "cour", "courts", "courta", "courtz", "bourt", "coust", "courtcourt", "a", "z", "dish"}) {
            fault(word, 0);
            fault(word + " 5;", 0);
        }
        for (String word : new String[] {"d", "dis", "dishh", "dishes", "mor", "mores", "les", "lesss", "lessmore", "mess", "lore", "aish", "disi"}) {
            fault("court 5;" + word, 8);
            fault("court 5;" + word + " 0 0 1 0 0;", 8);
            fault("court 5;" + word + " 0 0 1;", 8);
        }
        fault("co urt 5;", 0);
        fault("court 5;di sh 0 0 1 0 0;", 8);
    }

    private static void bytesThatBeginNone() {
        c.begin("8 read: FAULT: a byte that begins none");
        for (int b = 0; b <= 127; b++) {
            boolean begins = b >= 'a' && b <= 'z' || b >= '0' && b <= '9' || b == ';' || b == ' ';
            if (!begins) {
                String sign = "" + (char) b;
                c.begin("8 read: FAULT: the byte " + b + " begins none");
                fault(sign, 0);
                fault(sign + "court 5;", 0);
                fault("court" + sign + "5;", 5);
                fault("court " + sign + "5;", 6);
                fault("court 5" + sign + ";", 7);
                fault("court 5 " + sign, 8);
                fault("court 5;" + sign, 8);
                fault("court 5; " + sign + "dish 0 0 1 0 0;", 9);
                fault("court 5;dish 0" + sign + "0 1 0 0;", 14);
            }
        }
        c.begin("8 read: letters a .. z, figures, ; and blanks are the only ones that begin one");
        for (char letter = 'a'; letter <= 'z'; letter++) {
            fault("court 5" + letter, 7);
            fault("court" + letter + " 5;", 0);
        }
        for (char figure = '0'; figure <= '9'; figure++) {
            reads("court" + figure + ";", 1);
        }
    }

    private static void tokensOutOfPlace() {
        c.begin("8 read: FAULT: the first TOKEN that can not stand there");
        String[] parts = {"court", "5", ";", "dish", "1", "2", "3", "4", "0", ";", "more", "1", "2", "3", ";", "less", "4", "4", "0", ";"};
        for (int at = 0; at < parts.length; at++) {
            StringBuilder ahead = new StringBuilder();
            for (int i = 0; i < at; i++) {
                ahead.append(parts[i]).append(' ');
            }
            char due = parts[at].charAt(0);
            boolean isWord = due >= 'a' && due <= 'z';
            boolean isNumber = due >= '0' && due <= '9';
            if (!isWord) {
                fault(ahead + "dish 0 0 1 0 0;", ahead.length());
                fault(ahead + "court", ahead.length());
            }
            if (!isNumber) {
                fault(ahead + "0", ahead.length());
                fault(ahead + "99 ;", ahead.length());
            }
            if (due != ';') {
                fault(ahead + ";", ahead.length());
                fault(ahead + "; court 5;", ahead.length());
            }
            fault(ahead + "x", ahead.length());
            fault(ahead + "- 1", ahead.length());
        }
    }

    private static void ends() {
        c.begin("8 read: FAULT: the TEXT's length, if it ends too early, cut behind each byte");
        // Below each byte, what there is if it is the last: a word cut short, too early an end, or so many items.
        String text = " court 5;dish 1 2 3 4 0 ; more 01 2 03;less 4 4 0; ";
        String last = "ewwwweee1wwweeeeeeeeeeee22wwweeeeeeeee3wwweeeeeee44";
        int word = 0;
        c.due("a mark each", last.length(), text.length());
        for (int i = 0; i < text.length(); i++) {
            String cut = text.substring(0, i + 1);
            char mark = last.charAt(i);
            if (mark == 'w') {
                fault(cut, word);
            } else {
                word = i + 1;
                if (mark == 'e') {
                    fault(cut, i + 1);
                } else {
                    reads(cut, mark - '0');
                }
            }
        }
    }

    private static void blanks() {
        c.begin("8 read: blanks (32) between");
        reads("   court   5   ;   dish   0   0   1   0   0   ;   ", 2);
        reads("court5;dish0 0 1 0 0;more0 0 1;", 3);
        reads("court 5;dish 00 0 1 0 0;", 2);
        fault("court 5;dish 0 0 1 0 0 ; ;", 25);
        fault("court 5;;", 8);
        fault("court 5; ;", 9);
        fault("court\t5;", 5);
        fault("court\n5;", 5);
        // Numbers without a blank between are one.
        fault("court 5;dish 00100;", 13);
        fault("court 5;dish 0 0 10 0;", 17);
    }

    private static void moreAndLess() {
        c.begin("8 read: THE BOOK tells n, less than nothing by n");
        for (int n = 0; n <= 3; n++) {
            DinnerPleas x = typed("court 5;more 4 0 " + n + ";less 0 4 " + n + ";");
            c.due("read()", x.read(), 3);
            c.due("book(4, 0, 0)", x.book(4, 0, 0), n);
            c.due("book(0, 4, 0)", x.book(0, 4, 0), -n);
            for (int k = 0; k < 25; k++) {
                c.due("all else 0", x.book(k / 5, k % 5, 0), 0);
            }
        }
        DinnerPleas x = typed("court 5;more 1 1 3;less 1 1 2;");
        x.read();
        c.due("the later one holds", x.book(1, 1, 0), -2);
    }

    private static void takesThePlace() {
        c.begin("8 read: takes the place of all but IMAGES, THE TEXT, THE FRACTION, STATUS");
        DinnerPleas x = Courts.full();
        long above = x.part(0);
        long below = x.part(1);
        x.count(6);
        x.menu(0);
        x.dish(0, 0, 1, 0, 0);
        c.due("read()", x.read(), 5);
        long[] book = new long[25];
        book[6] = 3;
        book[4] = -2;
        long[] values = new long[6 + 1 + 25 + 10 + 2];
        values[0] = 2;
        values[1] = 7;
        values[5] = 150;
        System.arraycopy(book, 0, values, 7, 25);
        System.arraycopy(new long[] {3, 1, 2, 3, 2, 4, 1, 9, 0, 1, above, below}, 0, values, 32, 12);
        c.due("digest()", x.digest(), Checks.digestOf(values));
        c.begin("8 read: LEAN 0, nothing served, MENU empty, READINGS none; nothing to undo");
        c.due("leans()", x.leans(), 0);
        c.due("count(2)", x.count(2), 0);
        c.due("of(0, 5)", x.of(0, 5), 0);
        c.due("count(3)", x.count(3), 0);
        c.due("count(4)", x.count(4), 0);
        c.due("before(0)", x.before(0), 61);
        c.due("undo()", x.undo(), NO);
        c.due("menu(0)", x.menu(0), 1);
        c.due("status(0)", x.status(0), 1);
        c.due("status(1)", x.status(1), 2);
        c.due("status(2)", x.status(2), 1);
        c.due("from(0)", x.from(0), 1);
        c.due("count(2) of image 0", x.count(2), 8);
        c.due("from(1)", x.from(1), 1);
        c.due("count(4) of image 1", x.count(4), 6);
    }

    private static void allStays() {
        c.begin("8 read: -10 less the FAULT: all stays");
        for (String text : new String[] {"", "court 1", "court 1;dish 0 0 1 0 0;more 4 4 3;less 0 0 4;", "dish 0 0 1 0 0;"}) {
            DinnerPleas x = Courts.midway();
            x.clear();
            Checks.typeAll(x, text);
            long was = x.digest();
            x.read();
            c.due("digest() behind '" + text + "'", x.digest(), was);
            c.due("hungry as before", x.count(1), 4);
            c.due("undo()", x.undo(), 1);
            for (int what = 0; what < 3; what++) {
                c.due("status(" + what + ")", x.status(what), 0);
            }
        }
    }

    private static void again() {
        c.begin("8 read: THE TEXT stays, to be read again");
        DinnerPleas x = typed("court 9;dish 0 0 1 0 2;");
        c.due("read()", x.read(), 2);
        x.serve(0, 0);
        x.dish(0, 0, 1, 0, 0);
        c.due("count(5)", x.count(5), 23);
        c.due("read() again", x.read(), 2);
        c.due("count(0)", x.count(0), 1);
        c.due("leans()", x.leans(), 0);
        Checks.typeAll(x, "dish 1 1 1 1 1;");
        c.due("read() of more", x.read(), 3);
        c.due("count(0)", x.count(0), 2);
        x.type('@');
        c.due("read() of a fault", x.read(), -10 - 38);
        c.due("count(0)", x.count(0), 2);
        c.due("court(0)", x.court(0), 2);
        x.clear();
        c.due("read() of none", x.read(), -10);
        c.due("count(1)", x.count(1), 0);
        x.clear();
        Checks.typeAll(x, "court 3;");
        c.due("the dishes of a text read in vain do not come back", x.read(), 1);
        c.due("count(0)", x.count(0), 0);
    }
}
