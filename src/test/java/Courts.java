/** Courts to test with, each made anew; none takes more calls than leave room for Twins within 512. */
final class Courts {
    /** Of 150 bytes: as many as may be. */
    static final String LONGEST = pad("court 7;dish 3 1 2 3 2;dish 4 1 9 0 1;more 1 1 3;less 0 4 2;", 150);

    private Courts() {
    }

    static String pad(String text, int length) {
        return text + " ".repeat(length - text.length());
    }

    /** Nothing there yet. */
    static DinnerPleas empty() {
        return new DinnerPleas();
    }

    /** Six dishes, one of each kind, no two of them refused to both sides; the judge as hungry as at first. */
    static DinnerPleas sixKinds() {
        DinnerPleas x = new DinnerPleas();
        addSixKinds(x);
        return x;
    }

    private static void addSixKinds(DinnerPleas x) {
        x.dish(0, 0, 4, 2, 0);
        x.dish(1, 0, 3, 1, 1);
        x.dish(2, 1, 2, 0, 2);
        x.dish(3, 2, 5, 3, 0);
        x.dish(4, 0, 6, 5, 1);
        x.dish(5, 3, 7, 4, 2);
    }

    /** Some of all there is; image 1 is not kept. */
    static DinnerPleas midway() {
        DinnerPleas x = new DinnerPleas();
        x.court(3);
        x.dish(3, 0, 4, 9, 2);
        x.lean(-7);
        x.image(0);
        x.court(6);
        addSixKinds(x);
        x.book(0, 0, -2);
        x.book(1, 2, 3);
        x.book(4, 4, 1);
        x.lean(5);
        x.serve(0, 0);
        x.lean(-3);
        x.serve(2, 1);
        x.menu(3);
        x.reading(0, 0);
        x.menu(1);
        x.menu(5);
        x.reading(1, 1);
        x.burnt(0, 3, 0);
        Checks.typeAll(x, "court 8;dish 3 2 1 0 1;");
        return x;
    }

    /** Of everything as much as may be: dishes, courses, the menu, readings, the text, images. */
    static DinnerPleas full() {
        DinnerPleas x = new DinnerPleas();
        x.court(9);
        for (int i = 0; i < 8; i++) {
            x.dish(i % 6, i % 5, 1 + i, 9 - i, 2);
        }
        for (int k = 0; k < 25; k++) {
            x.book(k / 5, k % 5, k % 7 - 3);
        }
        x.lean(2);
        for (int i = 0; i < 8; i++) {
            x.menu(7 - i);
        }
        x.burnt(0, 3, 0);
        for (int i = 0; i < 6; i++) {
            x.reading(i % 2, 1 - i % 2);
        }
        x.image(1);
        for (int i = 0; i < 8; i++) {
            x.serve(i, i % 2);
        }
        x.image(0);
        Checks.typeAll(x, LONGEST);
        return x;
    }

    /** Plain dishes of both, of taste 0, without butter, of these forces. */
    static DinnerPleas plain(int... forces) {
        return plain(forces, forces.length);
    }

    /** The first ones of them alone. */
    static DinnerPleas plain(int[] forces, int many) {
        DinnerPleas x = new DinnerPleas();
        for (int i = 0; i < many; i++) {
            x.dish(0, 0, forces[i], 0, 2);
        }
        return x;
    }

    /** These are the menu now. */
    static void menuOf(DinnerPleas x, int... dishes) {
        x.wipe();
        for (int dish : dishes) {
            x.menu(dish);
        }
    }
}
