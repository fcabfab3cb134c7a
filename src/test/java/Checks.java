/** Counts answers that are not as due, and ends the program with 1 if there was one. */
final class Checks {
    private int done = 0;
    private int wrong = 0;
    private String part = "";

    void begin(String name) {
        part = name;
    }

    void due(String call, long got, long want) {
        done++;
        if (got != want) {
            wrong++;
            System.out.println(part + ": " + call + " answered " + got + ", due is " + want);
        }
    }

    void holds(String what, boolean so) {
        due(what, so ? 1 : 0, 1);
    }

    boolean isClean() {
        return wrong == 0;
    }

    void end() {
        System.out.println(done + " checks, " + wrong + " not as due");
        if (wrong != 0) {
            System.exit(1);
        }
    }

    /** The document's digest over the values in their order. */
    static long digestOf(long... values) {
        long h = 1019;
        for (long v : values) {
            h = 31 * h + v;
        }
        return h;
    }

    static int typeAll(DinnerPleas x, String text) {
        int last = 0;
        for (int i = 0; i < text.length(); i++) {
            last = x.type(text.charAt(i));
        }
        return last;
    }

    static int readOnly(DinnerPleas x, String text) {
        x.clear();
        typeAll(x, text);
        return x.read();
    }
}
