import java.util.ArrayList;
import java.util.List;
import java.util.function.Supplier;
import java.util.function.ToLongFunction;

/**
 * Two courts made alike: the one is asked something, the other is not, and behind it both must be the same in all that
 * can be seen, also in what no digest shows: the bytes of the text, the images, what may be undone.
 */
final class Twins {
    static final int BAD_COUNT = 0, NO_COUNT = 1, FULL_COUNT = 2;
    private static final int NOT_COUNTED = -1;

    private final Checks c;

    Twins(Checks c) {
        this.c = c;
    }

    /** The call is answered so, goes to this count of STATUS and to no other, and changes nothing else. */
    void refused(String call, Supplier<DinnerPleas> maker, ToLongFunction<DinnerPleas> asked, long answer, int count) {
        compare(call, maker, asked, answer, count);
    }

    /** The call is answered so, is no refusal, and changes nothing. */
    void keeps(String call, Supplier<DinnerPleas> maker, ToLongFunction<DinnerPleas> asked, long answer) {
        compare(call, maker, asked, answer, NOT_COUNTED);
    }

    /** The same, whatever the answer. */
    void keeps(String call, Supplier<DinnerPleas> maker, ToLongFunction<DinnerPleas> asked) {
        compare(call, maker, asked, asked.applyAsLong(maker.get()), NOT_COUNTED);
    }

    private void compare(String call, Supplier<DinnerPleas> maker, ToLongFunction<DinnerPleas> asked, long answer, int count) {
        DinnerPleas one = maker.get();
        DinnerPleas other = maker.get();
        c.due(call, asked.applyAsLong(one), answer);
        for (int what = 0; what < 3; what++) {
            int more = what == count ? 1 : 0;
            c.due("status(" + what + ") behind " + call, one.status(what), other.status(what) + more);
        }
        same("behind " + call, one, other);
    }

    /** Whether both are the same in all but STATUS; they are of no use behind it. */
    void same(String when, DinnerPleas one, DinnerPleas other) {
        List<Long> left = everything(one);
        List<Long> right = everything(other);
        c.due("how much there is " + when, left.size(), right.size());
        for (int i = 0; i < left.size() && i < right.size(); i++) {
            c.due("number " + i + " of all there is " + when, left.get(i), right.get(i));
        }
    }

    private static List<Long> everything(DinnerPleas x) {
        List<Long> seen = new ArrayList<>();
        showAndUndo(x, seen);
        seen.add((long) x.read());
        show(x, seen);
        for (int image = 0; image < 2; image++) {
            seen.add((long) x.from(image));
            showAndUndo(x, seen);
        }
        return seen;
    }

    private static void showAndUndo(DinnerPleas x, List<Long> seen) {
        show(x, seen);
        for (int courses = x.count(2); courses > 0; courses--) {
            seen.add((long) x.undo());
            seen.add(x.digest());
        }
    }

    private static void show(DinnerPleas x, List<Long> seen) {
        seen.add(x.digest());
        for (int what = 0; what < 6; what++) {
            seen.add((long) x.count(what));
        }
        for (int dish = 0; dish < x.count(0); dish++) {
            seen.add((long) x.of(dish, 6));
        }
        seen.add((long) x.leans());
        seen.add(x.part(0));
        seen.add(x.part(1));
        // The hunger that was told shows here even if the judge's own is gone.
        for (int side = 0; side < 2; side++) {
            seen.add((long) x.before(side));
            seen.add((long) x.tells(side));
        }
    }
}
