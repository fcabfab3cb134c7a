import java.math.BigInteger;
import java.util.ArrayList;
import java.util.Arrays;
import java.util.List;
import java.util.Random;
import java.util.regex.Matcher;
import java.util.regex.Pattern;

/** Runs of drawn calls, each answered by the class and by a plain model that tries everything out. */
public final class ModelTest {
    // An object answers for 512 calls; a step takes up to two and a digest, a text its bytes, clear, read and a digest.
    private static final int RUNS = 1200, CALLS = 512, STATUS_CALLS = 3, LONGEST_STEP = 3, TEXT_CALLS = 3;
    private static final Checks c = new Checks();

    public static void main(String[] args) {
        for (int run = 0; run < RUNS && c.isClean(); run++) {
            c.begin("run " + run);
            oneRun(new Random(run), run % 4);
        }
        c.end();
    }

    private static void oneRun(Random r, int sort) {
        DinnerPleas x = new DinnerPleas();
        Model m = new Model();
        int left = CALLS - STATUS_CALLS - (sort != 0 ? fill(x, m, r) : 0);
        while (left >= LONGEST_STEP && c.isClean()) {
            String text = r.nextInt(60) == 0 ? drawText(r) : "";
            if (!text.isEmpty() && text.length() + TEXT_CALLS <= left) {
                typeText(x, m, text);
                left -= text.length() + TEXT_CALLS;
            } else {
                oneCall(x, m, r, sort);
                left -= LONGEST_STEP;
            }
            c.due("digest() behind it", x.digest(), m.digest());
        }
        for (int what = 0; what < STATUS_CALLS; what++) {
            c.due("status(" + what + ")", x.status(what), m.status(what));
        }
    }

    private static int fill(DinnerPleas x, Model m, Random r) {
        int dishes = 3 + r.nextInt(6);
        for (int i = 0; i < dishes; i++) {
            int kind = r.nextInt(6), taste = r.nextInt(r.nextBoolean() ? 2 : 5), force = 1 + r.nextInt(9);
            int butter = r.nextInt(r.nextBoolean() ? 3 : 10), cook = r.nextInt(3);
            c.due("dish", x.dish(kind, taste, force, butter, cook), m.dish(kind, taste, force, butter, cook));
        }
        for (int i = 0; i < 10; i++) {
            int a = r.nextInt(5), b = r.nextInt(5), n = r.nextInt(7) - 3;
            c.due("book", x.book(a, b, n), m.book(a, b, n));
        }
        return dishes + 10;
    }

    private static void typeText(DinnerPleas x, Model m, String text) {
        c.due("clear()", x.clear(), m.clear());
        for (int i = 0; i < text.length(); i++) {
            c.due("type", x.type(text.charAt(i)), m.type(text.charAt(i)));
        }
        c.due("read() of " + text, x.read(), m.read());
    }

    /** A text that is mostly right, at times with a byte changed, lost, added, or the end cut off. */
    private static String drawText(Random r) {
        StringBuilder b = new StringBuilder();
        b.append(blanks(r)).append("court").append(blanks(r)).append(r.nextInt(r.nextInt(4) == 0 ? 12 : 10)).append(";");
        int items = r.nextInt(11);
        for (int i = 0; i < items; i++) {
            String[] numbers = r.nextInt(3) > 0
                ? new String[] {"dish", "" + r.nextInt(6), "" + r.nextInt(5), "" + (1 + r.nextInt(9)), "" + r.nextInt(10), "" + r.nextInt(3)}
                : new String[] {r.nextBoolean() ? "more" : "less", "" + r.nextInt(5), "" + r.nextInt(5), "" + r.nextInt(4)};
            b.append(String.join(r.nextInt(8) == 0 ? "  " : " ", numbers)).append(blanks(r)).append(";").append(blanks(r));
        }
        if (r.nextInt(2) == 0) {
            int at = r.nextInt(b.length());
            char[] others = {' ', ';', '0', '5', '9', 'a', 'd', 'C', '@', '-', 0, 127};
            switch (r.nextInt(4)) {
                case 0 -> b.setCharAt(at, others[r.nextInt(others.length)]);
                case 1 -> b.deleteCharAt(at);
                case 2 -> b.insert(at, others[r.nextInt(others.length)]);
                default -> b.setLength(at);
            }
        }
        return b.toString();
    }

    private static String blanks(Random r) {
        return " ".repeat(r.nextInt(5) == 0 ? 1 + r.nextInt(3) : 0);
    }

    /** Mostly within the bounds, at times just outside of them, seldom far. */
    private static int draw(Random r, int least, int most) {
        int way = r.nextInt(40);
        if (way == 0) {
            return least - 1;
        }
        if (way == 1) {
            return most + 1;
        }
        if (way == 2) {
            return r.nextInt();
        }
        return least + r.nextInt(most - least + 1);
    }

    private static void oneCall(DinnerPleas x, Model m, Random r, int sort) {
        int a = draw(r, 0, 1);
        int d = draw(r, 0, 7);
        int i = draw(r, -1, 4);
        int t = draw(r, 1, sort == 3 ? 5 : 3);
        int v = draw(r, 0, 2);
        int n;
        switch (r.nextInt(42)) {
            case 0 -> {
                n = r.nextInt(4) == 0 ? draw(r, 0, 9) : 10;
                c.due("court " + n, x.court(n), m.court(n));
            }
            case 1, 2, 3 -> {
                int[] q = {draw(r, 0, 5), draw(r, 0, 4), draw(r, 1, 9), draw(r, 0, 9), draw(r, 0, 2)};
                c.due("dish " + Arrays.toString(q), x.dish(q[0], q[1], q[2], q[3], q[4]), m.dish(q[0], q[1], q[2], q[3], q[4]));
            }
            case 4, 5 -> {
                int[] q = {draw(r, 0, 4), draw(r, 0, 4), draw(r, -3, 3)};
                c.due("book " + Arrays.toString(q), x.book(q[0], q[1], q[2]), m.book(q[0], q[1], q[2]));
            }
            case 6, 7 -> {
                n = r.nextBoolean() ? draw(r, -30, 30) : draw(r, -8, 8);
                c.due("lean " + n, x.lean(n), m.lean(n));
            }
            case 8 -> {
                n = draw(r, 0, 127);
                c.due("type " + n, x.type(n), m.type(n));
            }
            case 9, 10, 11 -> c.due("serve " + d + " " + a, x.serve(d, a), m.serve(d, a));
            case 12, 13, 14 -> c.due("undo", x.undo(), m.undo());
            case 15 -> {
                n = draw(r, 0, 6);
                c.due("of " + d + " " + n, x.of(d, n), m.of(d, n));
            }
            case 16 -> c.due("of " + d + " 6", x.of(d, 6), m.of(d, 6));
            case 17 -> c.due("course " + i + " " + v, x.course(i, v), m.course(i, v));
            case 18 -> c.due("leans", x.leans(), m.leans());
            case 19 -> c.due("verdict", x.verdict(), m.verdict());
            case 20, 21, 22, 23 -> c.due("menu " + d, x.menu(d), m.menu(d));
            case 24 -> c.due("wipe", r.nextInt(3) > 0 ? 0 : x.wipe() - m.wipe(), 0);
            case 25 -> c.due("comes " + a, x.comes(a), m.comes(a));
            case 26 -> c.due("did " + a + " " + i, x.did(a, i), m.did(a, i));
            case 27 -> c.due("play " + t + " " + a, x.play(t, a), m.play(t, a));
            case 28 -> c.due("first " + t + " " + a, x.first(t, a), m.first(t, a));
            case 29 -> c.due("pardon " + a + " " + i, x.pardon(a, i), m.pardon(a, i));
            case 30 -> c.due("cancel " + i, x.cancel(i), m.cancel(i));
            case 31 -> c.due("undoes " + a, x.undoes(a), m.undoes(a));
            case 32, 33 -> c.due("reading " + a + " " + v, x.reading(a, v), m.reading(a, v));
            case 34 -> c.due("forget", r.nextInt(2) > 0 ? 0 : x.forget() - m.forget(), 0);
            case 35 -> c.due("before " + a, x.before(a), m.before(a));
            case 36 -> c.due("tells " + a, x.tells(a), m.tells(a));
            case 37 -> c.due("sure " + a, x.sure(a), m.sure(a));
            case 38 -> {
                n = draw(r, 0, 10);
                c.due("burnt " + a + " " + n + " " + v, x.burnt(a, n, v), m.burnt(a, n, v));
                c.due("part " + a, x.part(a), m.part(a));
            }
            case 39 -> {
                int s = draw(r, 0, 999999);
                n = draw(r, 0, 60);
                c.due("dinners " + s + " " + n, x.dinners(s, n), m.dinners(s, n));
            }
            case 40 -> {
                if (r.nextBoolean()) {
                    c.due("image " + a, x.image(a), m.image(a));
                } else {
                    c.due("from " + a, x.from(a), m.from(a));
                }
            }
            default -> {
                n = draw(r, 0, 5);
                c.due("count " + n, x.count(n), m.count(n));
                c.due("status " + v, x.status(v), m.status(v));
            }
        }
    }

    // ---- the model

    private record Dish(int kind, int taste, int force, int butter, int cook) { }

    private record Course(int dish, int side, int did) { }

    private record Reading(int side, int verdict, List<Integer> row) { }

    /** A table at which courses are really served, one behind the other. */
    private static final class Table {
        List<Dish> dishes = new ArrayList<>();
        int[][] book = new int[5][5];
        int told = 5;
        int lean = 0;
        int hungry = 5;
        List<Course> courses = new ArrayList<>();
        List<Table> ahead = new ArrayList<>();

        Table copy() {
            Table t = new Table();
            t.dishes = new ArrayList<>(dishes);
            for (int a = 0; a < 5; a++) {
                t.book[a] = book[a].clone();
            }
            t.told = told;
            t.lean = lean;
            t.hungry = hungry;
            t.courses = new ArrayList<>(courses);
            t.ahead = new ArrayList<>(ahead);
            return t;
        }

        Table fromNothing(int leaning) {
            Table t = copy();
            t.courses.clear();
            t.ahead.clear();
            t.hungry = told;
            t.lean = leaning;
            return t;
        }

        Dish last() {
            return courses.isEmpty() ? null : dishes.get(courses.get(courses.size() - 1).dish());
        }

        int power(int kind, Dish d) {
            return switch (kind) {
                case 0 -> d.force();
                case 1 -> last() != null && last().taste() == d.taste() ? 2 * power(0, d) : power(0, d);
                case 2 -> power(0, d) + courses.size();
                case 3 -> power(0, d) + hungry;
                case 4 -> power(1, d) + (last() != null && last().cook() != d.cook() ? 3 : 0);
                default -> courses.size() >= 4 ? power(2, d) : 0;
            };
        }

        int does(int i) {
            Dish d = dishes.get(i);
            int told = last() == null ? 0 : book[last().taste()][d.taste()];
            return Math.max(0, power(d.kind(), d) + told);
        }

        boolean wasServed(int i) {
            return courses.stream().anyMatch(k -> k.dish() == i);
        }

        boolean may(int i, int side) {
            return i >= 0 && i < dishes.size() && !wasServed(i) && courses.size() < 9
                && (dishes.get(i).cook() == 2 || dishes.get(i).cook() == side);
        }

        int put(int i, int side, boolean burnt) {
            int did = burnt ? 0 : does(i);
            ahead.add(copy());
            courses.add(new Course(i, side, did));
            lean += side == 0 ? did : -did;
            hungry = Math.max(0, hungry - 1);
            return did;
        }

        int verdict() {
            return lean > 0 ? 0 : lean < 0 ? 1 : 2;
        }

        /** The row by turns; what each did. */
        List<Integer> row(List<Integer> row, int side, List<Boolean> burnt) {
            List<Integer> did = new ArrayList<>();
            for (int k = 0; k < row.size(); k++) {
                if (wasServed(row.get(k)) || courses.size() >= 9) {
                    did.add(0);
                } else {
                    did.add(put(row.get(k), side, burnt.get(k)));
                    side = 1 - side;
                }
            }
            return did;
        }
    }

    private static final class Model {
        Table now = new Table();
        List<Integer> menu = new ArrayList<>();
        List<Reading> readings = new ArrayList<>();
        StringBuilder text = new StringBuilder();
        BigInteger above = BigInteger.ZERO;
        BigInteger below = BigInteger.ONE;
        Model[] images = new Model[2];
        int[] status = new int[3];

        int refuse(int what, int answer) {
            status[what]++;
            return answer;
        }

        boolean out(int n, int least, int most) {
            return n < least || n > most;
        }

        int court(int h) {
            if (out(h, 0, 9)) {
                return refuse(0, -2);
            }
            int were = now.dishes.size();
            now = new Table();
            now.told = h;
            now.hungry = h;
            menu = new ArrayList<>();
            readings = new ArrayList<>();
            return were;
        }

        int dish(int kind, int taste, int force, int butter, int cook) {
            if (out(kind, 0, 5) || out(taste, 0, 4) || out(force, 1, 9) || out(butter, 0, 9) || out(cook, 0, 2)) {
                return refuse(0, -2);
            }
            if (now.dishes.size() == 8) {
                return refuse(2, -4);
            }
            now.dishes.add(new Dish(kind, taste, force, butter, cook));
            return now.dishes.size() - 1;
        }

        int book(int a, int b, int n) {
            if (out(a, 0, 4) || out(b, 0, 4) || out(n, -3, 3)) {
                return refuse(0, -10);
            }
            int was = now.book[a][b];
            now.book[a][b] = n;
            return was;
        }

        int lean(int n) {
            if (out(n, -30, 30)) {
                return refuse(0, -1000);
            }
            int was = now.lean;
            now.lean = n;
            return was;
        }

        int type(int b) {
            if (out(b, 0, 127)) {
                return refuse(0, -2);
            }
            if (text.length() == 150) {
                return refuse(2, -4);
            }
            text.append((char) b);
            return text.length();
        }

        int clear() {
            int had = text.length();
            text.setLength(0);
            return had;
        }

        int read() {
            Matcher k = Pattern.compile("[a-z]+|[0-9]+|[^ ]", Pattern.DOTALL).matcher(text);
            List<String> tokens = new ArrayList<>();
            List<Integer> places = new ArrayList<>();
            while (k.find()) {
                tokens.add(k.group());
                places.add(k.start());
            }
            places.add(text.length());
            Model read = new Model();
            int items = 0;
            int p = 0;
            while (p < tokens.size() || items == 0) {
                String word = p < tokens.size() ? tokens.get(p) : "";
                int[][] bounds = switch (word) {
                    case "court" -> new int[][] {{0, 9}};
                    case "dish" -> new int[][] {{0, 5}, {0, 4}, {1, 9}, {0, 9}, {0, 2}};
                    case "more", "less" -> new int[][] {{0, 4}, {0, 4}, {0, 3}};
                    default -> null;
                };
                if (bounds == null || word.equals("court") != (items == 0) || word.equals("dish") && read.now.dishes.size() == 8) {
                    return -10 - places.get(p);
                }
                p++;
                int[] n = new int[bounds.length];
                for (int i = 0; i <= bounds.length; i++, p++) {
                    if (p == tokens.size()) {
                        return -10 - text.length();
                    }
                    String token = tokens.get(p);
                    if (i == bounds.length ? !token.equals(";") : !token.matches("[0-9]{1,2}")) {
                        return -10 - places.get(p);
                    }
                    if (i < bounds.length) {
                        n[i] = Integer.parseInt(token);
                        if (out(n[i], bounds[i][0], bounds[i][1])) {
                            return -10 - places.get(p);
                        }
                    }
                }
                items++;
                switch (word) {
                    case "court" -> read.court(n[0]);
                    case "dish" -> read.dish(n[0], n[1], n[2], n[3], n[4]);
                    case "more" -> read.book(n[0], n[1], n[2]);
                    default -> read.book(n[0], n[1], -n[2]);
                }
            }
            now = read.now;
            menu = read.menu;
            readings = read.readings;
            return items;
        }

        int serve(int d, int side) {
            if (out(d, 0, now.dishes.size() - 1) || out(side, 0, 1)) {
                return refuse(0, -2);
            }
            return now.may(d, side) ? now.put(d, side, false) : refuse(1, -3);
        }

        int undo() {
            if (now.courses.isEmpty()) {
                return refuse(1, -3);
            }
            Table was = now.ahead.get(now.ahead.size() - 1);
            now.lean = was.lean;
            now.hungry = was.hungry;
            now.courses = new ArrayList<>(was.courses);
            now.ahead = new ArrayList<>(was.ahead);
            return now.courses.size();
        }

        int of(int d, int what) {
            if (out(d, 0, now.dishes.size() - 1) || out(what, 0, 6)) {
                return refuse(0, -2);
            }
            Dish q = now.dishes.get(d);
            return new int[] {q.kind(), q.taste(), q.force(), q.butter(), q.cook(), now.wasServed(d) ? 1 : 0, now.does(d)}[what];
        }

        int course(int i, int what) {
            if (out(i, 0, now.courses.size() - 1) || out(what, 0, 2)) {
                return refuse(0, -2);
            }
            Course q = now.courses.get(i);
            return new int[] {q.dish(), q.side(), q.did()}[what];
        }

        int leans() {
            return now.lean;
        }

        int verdict() {
            return now.verdict();
        }

        int menu(int d) {
            if (out(d, 0, now.dishes.size() - 1)) {
                return refuse(0, -2);
            }
            if (menu.contains(d)) {
                return refuse(1, -3);
            }
            menu.add(d);
            return menu.size();
        }

        int wipe() {
            int had = menu.size();
            menu.clear();
            return had;
        }

        List<Boolean> burntOnes(int set) {
            List<Boolean> burnt = new ArrayList<>();
            for (int k = 0; k < menu.size(); k++) {
                burnt.add((set >> k) % 2 == 1);
            }
            return burnt;
        }

        int comes(int side) {
            if (out(side, 0, 1)) {
                return refuse(0, -1000);
            }
            Table t = now.copy();
            t.row(menu, side, burntOnes(0));
            return t.lean;
        }

        int did(int side, int i) {
            if (out(side, 0, 1) || i < -1) {
                return refuse(0, -10);
            }
            Table t = now.copy();
            List<Integer> did = t.row(menu, side, burntOnes(0));
            return i == -1 ? t.verdict() : i < did.size() ? did.get(i) : -5;
        }

        /** How the judge leans behind the best of all there is to do, and which dish. */
        int[] best(Table t, int turns, int side) {
            if (turns == 0) {
                return new int[] {t.lean, 8};
            }
            int[] best = null;
            for (int d = 0; d <= 8; d++) {
                if (d == 8 || t.may(d, side)) {
                    Table u = t.copy();
                    u.ahead.clear();
                    if (d < 8) {
                        u.put(d, side, false);
                    }
                    int lean = best(u, turns - 1, 1 - side)[0];
                    if (best == null || (side == 0 ? lean > best[0] : lean < best[0])) {
                        best = new int[] {lean, d};
                    }
                }
            }
            return best;
        }

        int play(int m, int side) {
            return out(m, 1, 5) || out(side, 0, 1) ? refuse(0, -1000) : best(now, m, side)[0];
        }

        int first(int m, int side) {
            return out(m, 1, 5) || out(side, 0, 1) ? refuse(0, -2) : best(now, m, side)[1];
        }

        int butter(List<Integer> row) {
            return row.stream().mapToInt(d -> now.dishes.get(d).butter()).sum();
        }

        /** Below 0, if the row a is ahead of b. */
        int order(List<Integer> a, List<Integer> b) {
            if (butter(a) != butter(b)) {
                return butter(a) - butter(b);
            }
            if (a.size() != b.size()) {
                return a.size() - b.size();
            }
            for (int k = 0; k < a.size(); k++) {
                if (!a.get(k).equals(b.get(k))) {
                    return a.get(k) - b.get(k);
                }
            }
            return 0;
        }

        void rows(Table t, int side, List<Integer> row, List<List<Integer>> found) {
            if (t.verdict() == side) {
                found.add(row);
            }
            for (int d = 0; d < now.dishes.size() && row.size() < 4; d++) {
                if (t.may(d, side)) {
                    Table u = t.copy();
                    u.ahead.clear();
                    u.put(d, side, false);
                    List<Integer> more = new ArrayList<>(row);
                    more.add(d);
                    rows(u, side, more, found);
                }
            }
        }

        int pardon(int side, int i) {
            if (out(side, 0, 1) || i < -1) {
                return refuse(0, -10);
            }
            List<List<Integer>> found = new ArrayList<>();
            rows(now, side, new ArrayList<>(), found);
            if (found.isEmpty()) {
                return -1;
            }
            found.sort(this::order);
            List<Integer> row = found.get(0);
            return i == -1 ? butter(row) : i < row.size() ? row.get(i) : -5;
        }

        int behind(int d, int side, int e) {
            Table t = now.copy();
            t.put(d, side, false);
            t.put(e, 1 - side, false);
            return t.lean;
        }

        int cancel(int k) {
            if (k < -1) {
                return refuse(0, -10);
            }
            List<Integer> pairs = new ArrayList<>();
            for (int i = 0; i < now.dishes.size(); i++) {
                for (int j = i + 1; j < now.dishes.size() && now.courses.size() <= 7; j++) {
                    if (!now.wasServed(i) && !now.wasServed(j) && behind(i, 0, j) == now.lean && behind(j, 1, i) == now.lean) {
                        pairs.add(10 * i + j);
                    }
                }
            }
            return k == -1 ? pairs.size() : k < pairs.size() ? pairs.get(k) : -5;
        }

        int undoes(int side) {
            if (out(side, 0, 1)) {
                return refuse(0, -2);
            }
            List<List<Integer>> found = new ArrayList<>();
            for (int d = 0; d < now.dishes.size(); d++) {
                Table t = now.copy();
                if (t.may(d, side)) {
                    t.put(d, side, false);
                    if (t.verdict() != now.verdict()) {
                        found.add(List.of(d));
                    }
                }
            }
            found.sort(this::order);
            return found.isEmpty() ? -1 : found.get(0).get(0);
        }

        int reading(int side, int verdict) {
            if (out(side, 0, 1) || out(verdict, 0, 2)) {
                return refuse(0, -2);
            }
            if (readings.size() == 6) {
                return refuse(2, -4);
            }
            readings.add(new Reading(side, verdict, List.copyOf(menu)));
            return readings.size();
        }

        int forget() {
            int were = readings.size();
            readings.clear();
            return were;
        }

        int verdictFrom(int lean, List<Integer> row, int side) {
            Table t = now.fromNothing(lean);
            List<Boolean> whole = new ArrayList<>();
            row.forEach(d -> whole.add(false));
            t.row(row, side, whole);
            return t.verdict();
        }

        List<Integer> leansBefore() {
            List<Integer> fit = new ArrayList<>();
            for (int lean = -30; lean <= 30; lean++) {
                boolean fits = true;
                for (Reading q : readings) {
                    fits = fits && verdictFrom(lean, q.row(), q.side()) == q.verdict();
                }
                if (fits) {
                    fit.add(lean);
                }
            }
            return fit;
        }

        int before(int what) {
            if (out(what, 0, 1)) {
                return refuse(0, -1000);
            }
            List<Integer> fit = leansBefore();
            return what == 0 ? fit.size() : fit.isEmpty() ? -100 : fit.get(0);
        }

        int tells(int side) {
            if (out(side, 0, 1)) {
                return refuse(0, -2);
            }
            int[] left = new int[3];
            for (int lean : leansBefore()) {
                left[verdictFrom(lean, menu, side)]++;
            }
            return Math.max(left[0], Math.max(left[1], left[2]));
        }

        int verdictBurnt(int side, int set) {
            Table t = now.copy();
            t.row(menu, side, burntOnes(set));
            return t.verdict();
        }

        int sure(int side) {
            if (out(side, 0, 1)) {
                return refuse(0, -2);
            }
            for (int k = 0; k < menu.size(); k++) {
                if (verdictBurnt(side, 1 << k) != verdictBurnt(side, 0)) {
                    return 0;
                }
            }
            return 1;
        }

        int burnt(int side, int odds, int v) {
            if (out(side, 0, 1) || out(odds, 0, 10) || out(v, 0, 2)) {
                return refuse(0, -2);
            }
            BigInteger ways = BigInteger.ZERO;
            for (int set = 0; set < 1 << menu.size(); set++) {
                if (verdictBurnt(side, set) == v) {
                    BigInteger way = BigInteger.ONE;
                    for (boolean is : burntOnes(set)) {
                        way = way.multiply(BigInteger.valueOf(is ? odds : 10 - odds));
                    }
                    ways = ways.add(way);
                }
            }
            BigInteger all = BigInteger.TEN.pow(menu.size());
            above = ways.divide(ways.gcd(all));
            below = all.divide(ways.gcd(all));
            return 1;
        }

        int dinners(int seed, int n) {
            if (out(seed, 0, 999999) || out(n, 0, 60)) {
                return refuse(0, -2);
            }
            BigInteger x = BigInteger.valueOf(seed);
            int won = 0;
            for (int k = 0; k < n; k++) {
                Table t = now.copy();
                int side = 0;
                while (t.courses.size() < 9) {
                    x = x.multiply(BigInteger.valueOf(1103515245)).add(BigInteger.valueOf(12345)).mod(BigInteger.ONE.shiftLeft(31));
                    int d = x.shiftRight(16).mod(BigInteger.valueOf(9)).intValue();
                    if (!t.may(d, side)) {
                        break;
                    }
                    t.put(d, side, false);
                    side = 1 - side;
                }
                won += t.verdict() == 0 ? 1 : 0;
            }
            return won;
        }

        long part(int what) {
            return what == 0 ? above.longValue() : what == 1 ? below.longValue() : refuse(0, -2);
        }

        int image(int i) {
            if (out(i, 0, 1)) {
                return refuse(0, -2);
            }
            images[i] = new Model();
            images[i].now = now.copy();
            images[i].menu = new ArrayList<>(menu);
            images[i].readings = new ArrayList<>(readings);
            return 1;
        }

        int from(int i) {
            if (out(i, 0, 1)) {
                return refuse(0, -2);
            }
            if (images[i] == null) {
                return refuse(1, -3);
            }
            now = images[i].now.copy();
            menu = new ArrayList<>(images[i].menu);
            readings = new ArrayList<>(images[i].readings);
            return 1;
        }

        int status(int what) {
            return out(what, 0, 2) ? refuse(0, -1) : status[what];
        }

        int count(int what) {
            if (out(what, 0, 5)) {
                return refuse(0, -2);
            }
            return new int[] {now.dishes.size(), now.hungry, now.courses.size(), menu.size(), readings.size(), text.length()}[what];
        }

        long digest() {
            List<Long> v = new ArrayList<>();
            for (int what = 0; what < 6; what++) {
                v.add((long) count(what));
            }
            v.add((long) now.lean);
            for (int[] a : now.book) {
                for (int n : a) {
                    v.add((long) n);
                }
            }
            for (Dish d : now.dishes) {
                v.addAll(List.of((long) d.kind(), (long) d.taste(), (long) d.force(), (long) d.butter(), (long) d.cook()));
            }
            for (Course k : now.courses) {
                v.addAll(List.of((long) k.dish(), (long) k.side(), (long) k.did()));
            }
            menu.forEach(d -> v.add((long) d));
            for (Reading q : readings) {
                v.addAll(List.of((long) q.side(), (long) q.verdict(), (long) q.row().size()));
                q.row().forEach(d -> v.add((long) d));
            }
            v.add(above.longValue());
            v.add(below.longValue());
            return Checks.digestOf(v.stream().mapToLong(n -> n).toArray());
        }
    }
}
